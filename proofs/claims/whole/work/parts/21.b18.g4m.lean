set_option maxHeartbeats 4000000 in
set_option maxRecDepth 100000 in
/-- ClassMillModel.spelling -/
theorem vm_spelling (l : Launch) (dC : Nat → ClassId) (dI : Nat → Nat → Nat) (sz : Nat) (h0 : Nat) (zs : (List Value)) (qf58 : Nat) (qf59 : Nat) (qf60 : Nat) (qf61 : Nat) (v62 : Int32) (qf63 : Nat) (v64 : Int32) (qf65 : Nat) (v66 : Int32) (cf58 : ClassId) (f58 : (Nat → Int32)) (cf59 : ClassId) (f59 : (Nat → Int32)) (cf60 : ClassId) (f60 : (Nat → Int32)) (cf61 : ClassId) (f61 : (Nat → Int32)) (cf65 : ClassId) (f65 : (Nat → Int32)) (cf63 : ClassId) (f63 : (Nat → Int32)) (nf : Nat) (r0 : Int32) (o58 : (Nat → Int32)) (o59 : (Nat → Int32)) (o60 : (Nat → Int32)) (o61 : (Nat → Int32)) (o63 : (Nat → Int32)) (w62 : Int32) (w64 : Int32) (w66 : Int32) (hlen : zs.length = 155) (hf58 : zs[58]? = some (.ref qf58)) (hf59 : zs[59]? = some (.ref qf59)) (hf60 : zs[60]? = some (.ref qf60)) (hf61 : zs[61]? = some (.ref qf61)) (hf62 : zs[62]? = some (.int v62)) (hf63 : zs[63]? = some (.ref qf63)) (hf64 : zs[64]? = some (.int v64)) (hf65 : zs[65]? = some (.ref qf65)) (hf66 : zs[66]? = some (.int v66)) (hsp : sp_vm_spelling nf v62 v64 v66 f58 f59 f60 f61 f65 f63 = some (r0, o58, o59, o60, o61, o63, w62, w64, w66)) : Met l yX13_spelling (.code yX13_spelling cX13_spelling 5 (some .int) :: VS_h9) ({ frames := 1, cells := 0, slots := 0, locals := 25 }) (va_Pc [.ref h0] (fun U => U.heap.size = sz ∧ va_P (dC, dI) vwCl [(h0, .inr (13, zs)), (qf58, .inl (cf58, 2000, .inl f58)), (qf59, .inl (cf59, 2000, .inl f59)), (qf60, .inl (cf60, 2000, .inl f60)), (qf61, .inl (cf61, 2000, .inl f61)), (qf65, .inl (cf65, 200, .inl f65)), (qf63, .inl (cf63, 40000, .inl f63))] U.heap ∧ va_K (dC, dI) vwCl [(cf58, .int), (cf59, .int), (cf60, .int), (cf61, .int), (cf65, .int), (cf63, .int)] U ∧ va_D (fun _ => True) [(h0, .inr (13, zs)), (qf58, .inl (cf58, 2000, .inl f58)), (qf59, .inl (cf59, 2000, .inl f59)), (qf60, .inl (cf60, 2000, .inl f60)), (qf61, .inl (cf61, 2000, .inl f61)), (qf65, .inl (cf65, 200, .inl f65)), (qf63, .inl (cf63, 40000, .inl f63))])) (va_Qi (fun (r : Int32) (u : (List Value)) => match u with | (zo1) => r0 = r ∧ zo1.length = 155 ∧ (∀ j : Nat, j ≠ 62 → j ≠ 64 → j ≠ 66 → zo1[j]? = zs[j]?) ∧ zo1[62]? = some (.int w62) ∧ zo1[64]? = some (.int w64) ∧ zo1[66]? = some (.int w66)) (fun (u : (List Value)) (t : State) => match u with | (zo1) => va_P (dC, dI) vwCl [(h0, .inr (13, zo1)), (qf58, .inl (cf58, 2000, .inl o58)), (qf59, .inl (cf59, 2000, .inl o59)), (qf60, .inl (cf60, 2000, .inl o60)), (qf61, .inl (cf61, 2000, .inl o61)), (qf65, .inl (cf65, 200, .inl f65)), (qf63, .inl (cf63, 40000, .inl o63))] t.heap ∧ va_K (dC, dI) vwCl [(cf58, .int), (cf59, .int), (cf60, .int), (cf61, .int), (cf65, .int), (cf63, .int)] t ∧ va_D (va_A [(h0, .inr (13, zs)), (qf58, .inl (cf58, 2000, .inl f58)), (qf59, .inl (cf59, 2000, .inl f59)), (qf60, .inl (cf60, 2000, .inl f60)), (qf61, .inl (cf61, 2000, .inl f61)), (qf65, .inl (cf65, 200, .inl f65)), (qf63, .inl (cf63, 40000, .inl f63))] sz) [(h0, .inr (13, zo1)), (qf58, .inl (cf58, 2000, .inl o58)), (qf59, .inl (cf59, 2000, .inl o59)), (qf60, .inl (cf60, 2000, .inl o60)), (qf61, .inl (cf61, 2000, .inl o61)), (qf65, .inl (cf65, 200, .inl f65)), (qf63, .inl (cf63, 40000, .inl o63))]) (va_A [(h0, .inr (13, zs)), (qf58, .inl (cf58, 2000, .inl f58)), (qf59, .inl (cf59, 2000, .inl f59)), (qf60, .inl (cf60, 2000, .inl f60)), (qf61, .inl (cf61, 2000, .inl f61)), (qf65, .inl (cf65, 200, .inl f65)), (qf63, .inl (cf63, 40000, .inl f63))] sz)) 0 0 (va_A [(h0, .inr (13, zs)), (qf58, .inl (cf58, 2000, .inl f58)), (qf59, .inl (cf59, 2000, .inl f59)), (qf60, .inl (cf60, 2000, .inl f60)), (qf61, .inl (cf61, 2000, .inl f61)), (qf65, .inl (cf65, 200, .inl f65)), (qf63, .inl (cf63, 40000, .inl f63))] sz) := by
  refine Met.ofW (cc := cX13_spelling) (maxL := 5) (ret := (some .int)) (by decide) rfl ?_
  intro p e s m args below meth c s₁ B hml hv
  obtain ⟨rfl, hsz, hP, hK, hD0⟩ := hv
  have hx := B.exec
  have hb := B.bytes
  have hr := B.returns
  have hts := atoms_spec (ws := (.code yX13_spelling cX13_spelling 5 (some .int) :: VS_h9)) B.pre
  replace hts := fun w (h : w ∈ VS_h9) => hts w (List.mem_cons_of_mem _ h)
  have hown : s.vm.findClass RX13 = some m.cls := findClass_of_methodNamed B.named
  have hlocks := B.notSynchronized
  subst hsz
  have hD := hD0.self (sz := s.heap.size)
  generalize hAe : va_A [(h0, .inr (13, zs)), (qf58, .inl (cf58, 2000, .inl f58)), (qf59, .inl (cf59, 2000, .inl f59)), (qf60, .inl (cf60, 2000, .inl f60)), (qf61, .inl (cf61, 2000, .inl f61)), (qf65, .inl (cf65, 200, .inl f65)), (qf63, .inl (cf63, 40000, .inl f63))] s.heap.size = A at hD  ⊢
  have hA : ∀ q : Nat, s.heap.size ≤ q → A q := fun q h => by rw [← hAe]; exact Or.inr h
  have hP : va_P (dC, dI) vwCl [(h0, .inr (13, zs)), (qf58, .inl (cf58, 2000, .inl f58)), (qf59, .inl (cf59, 2000, .inl f59)), (qf60, .inl (cf60, 2000, .inl f60)), (qf61, .inl (cf61, 2000, .inl f61)), (qf65, .inl (cf65, 200, .inl f65)), (qf63, .inl (cf63, 40000, .inl f63))] s.heap := hP
  have hl := lv_entry ([.ref h0]) (n := 5) (Nat.le_of_ble_eq_true rfl)
  rw [lg_entry_eq]
  generalize (lg_sl ([.ref h0]) ++ List.replicate (5 - (lg_sl ([.ref h0])).length) Slot.unset).toArray = ls at hl ⊢
  have hl : lv_has ls 5 [(0, .ref h0)] := hl
  obtain ⟨H, hH⟩ : ∃ H : Heap, s.heap = H := ⟨_, rfl⟩
  rw [hH] at hP ⊢
  have hS : va_S A s.heap H [] := by rw [← hH]; exact va_S.rf
  obtain ⟨locs, hlo⟩ : ∃ locs : List Loc, locs = [] := ⟨_, rfl⟩
  rw [← hlo] at hS ⊢
  have hrs0 : ∀ j : Nat, j ≠ 62 → j ≠ 64 → j ≠ 66 → zs[j]? = zs[j]? := fun _ _ _ _  => rfl
  unfold sp_vm_spelling at hsp
  refine lv_aload_n hx hb dX13_spelling_0 rfl (lv_at hl 0 rfl) ?_
  refine va_get (D := (dC, dI)) (ci := 13) (v := .int v66) (C := RX13) (T := TX13) (N := 155) hx hb hts uV_h9_X13 hown hK hP 0 rfl rfl 66 (by decide) (hts (.fieldLink RX13 590 "ClassMillModel" "spells" "I") mw_h9_403) (fun _ h9 => h9) hf66 dX13_spelling_1 ?_
  refine lv_istore_n (lv' := [(1, .int v66), (0, .ref h0)]) hx hb dX13_spelling_4 rfl hl (by decide) rfl (fun ls hl => ?_)
  refine lv_aload_n hx hb dX13_spelling_5 rfl (lv_at hl 1 rfl) ?_
  refine lv_iconst (v := 0) hx hb dX13_spelling_6 (by decide) ?_
  refine va_put (D := (dC, dI)) (ci := 13) (v := .int 0) (ty := .int) (C := RX13) (T := TX13) (N := 155) hx hb hts uV_h9_X13 tyX13 tyX13_ok nmX13 hown hK hP hD hS 0 rfl rfl 66 (by decide) (hts (.fieldLink RX13 590 "ClassMillModel" "spells" "I") mw_h9_403) (fun _ h9 => h9) rfl (by decide +kernel) rfl rfl (by rw [hlen]; decide) dX13_spelling_7 ?_
  clear hP hD hS
  intro H locs hP hD hS
  obtain ⟨fs_1, efs_1⟩ : ∃ zf : List Value, zf = zs.set 66 (.int 0) := ⟨_, rfl⟩
  rw [← efs_1] at hP hD
  have hlfs_1 : fs_1.length = 155 := by rw [efs_1, List.length_set]; exact hlen
  have hfs_1_58 : fs_1[58]? = some (.ref qf58) := by rw [efs_1, List.getElem?_set_ne (by decide)]; exact hf58
  have hfs_1_59 : fs_1[59]? = some (.ref qf59) := by rw [efs_1, List.getElem?_set_ne (by decide)]; exact hf59
  have hfs_1_60 : fs_1[60]? = some (.ref qf60) := by rw [efs_1, List.getElem?_set_ne (by decide)]; exact hf60
  have hfs_1_61 : fs_1[61]? = some (.ref qf61) := by rw [efs_1, List.getElem?_set_ne (by decide)]; exact hf61
  have hfs_1_62 : fs_1[62]? = some (.int v62) := by rw [efs_1, List.getElem?_set_ne (by decide)]; exact hf62
  have hfs_1_63 : fs_1[63]? = some (.ref qf63) := by rw [efs_1, List.getElem?_set_ne (by decide)]; exact hf63
  have hfs_1_64 : fs_1[64]? = some (.int v64) := by rw [efs_1, List.getElem?_set_ne (by decide)]; exact hf64
  have hfs_1_65 : fs_1[65]? = some (.ref qf65) := by rw [efs_1, List.getElem?_set_ne (by decide)]; exact hf65
  have hfs_1_66 : fs_1[66]? = some (.int 0) := by rw [efs_1, List.getElem?_set_self (by rw [hlen]; decide)]
  replace hP : va_P (dC, dI) vwCl [(h0, .inr (13, fs_1)), (qf58, .inl (cf58, 2000, .inl f58)), (qf59, .inl (cf59, 2000, .inl f59)), (qf60, .inl (cf60, 2000, .inl f60)), (qf61, .inl (cf61, 2000, .inl f61)), (qf65, .inl (cf65, 200, .inl f65)), (qf63, .inl (cf63, 40000, .inl f63))] H := hP
  replace hD : va_D A [(h0, .inr (13, fs_1)), (qf58, .inl (cf58, 2000, .inl f58)), (qf59, .inl (cf59, 2000, .inl f59)), (qf60, .inl (cf60, 2000, .inl f60)), (qf61, .inl (cf61, 2000, .inl f61)), (qf65, .inl (cf65, 200, .inl f65)), (qf63, .inl (cf63, 40000, .inl f63))] := hD
  have hrs_2 : ∀ j : Nat, j ≠ 62 → j ≠ 64 → j ≠ 66 → fs_1[j]? = zs[j]? := fun j g62 g64 g66 => ((congrArg (fun z : List Value => z[j]?) efs_1).trans (List.getElem?_set_ne (Ne.symm g66))).trans (hrs0 j g62 g64 g66)
  refine lv_iconst (v := 1) hx hb dX13_spelling_10 (by decide) ?_
  refine lv_istore_n (lv' := [(2, .int 1), (1, .int v66), (0, .ref h0)]) hx hb dX13_spelling_11 rfl hl (by decide) rfl (fun ls hl => ?_)
  replace hl : lv_has ls 5 [(2, .int 1), (1, .int v66), (0, .ref h0)] := lv_sub hl [0, 1, 2] rfl
  replace hP := hP.sub (ws' := [(h0, .inr (13, fs_1)), (qf58, .inl (cf58, 2000, .inl f58)), (qf59, .inl (cf59, 2000, .inl f59)), (qf60, .inl (cf60, 2000, .inl f60)), (qf61, .inl (cf61, 2000, .inl f61)), (qf65, .inl (cf65, 200, .inl f65)), (qf63, .inl (cf63, 40000, .inl f63))]) [0, 1, 2, 3, 4, 5, 6] rfl
  replace hD := hD.sub (ws' := [(h0, .inr (13, fs_1)), (qf58, .inl (cf58, 2000, .inl f58)), (qf59, .inl (cf59, 2000, .inl f59)), (qf60, .inl (cf60, 2000, .inl f60)), (qf61, .inl (cf61, 2000, .inl f61)), (qf65, .inl (cf65, 200, .inl f65)), (qf63, .inl (cf63, 40000, .inl f63))]) [0, 1, 2, 3, 4, 5, 6] (by decide) rfl
  replace hK := hK.sub (tys' := [(cf58, .int), (cf59, .int), (cf60, .int), (cf61, .int), (cf65, .int), (cf63, .int)]) [0, 1, 2, 3, 4, 5] rfl
  obtain ⟨n_12, hn_12⟩ : ∃ z : Nat, z = nf := ⟨_, rfl⟩
  obtain ⟨l1_12, el1_12⟩ : ∃ z : Int32, z = v66 := ⟨_, rfl⟩
  obtain ⟨l2_12, el2_12⟩ : ∃ z : Int32, z = 1 := ⟨_, rfl⟩
  obtain ⟨g58_12, eg58_12⟩ : ∃ z : Nat → Int32, z = f58 := ⟨_, rfl⟩
  obtain ⟨g59_12, eg59_12⟩ : ∃ z : Nat → Int32, z = f59 := ⟨_, rfl⟩
  obtain ⟨g60_12, eg60_12⟩ : ∃ z : Nat → Int32, z = f60 := ⟨_, rfl⟩
  obtain ⟨g61_12, eg61_12⟩ : ∃ z : Nat → Int32, z = f61 := ⟨_, rfl⟩
  obtain ⟨g63_12, eg63_12⟩ : ∃ z : Nat → Int32, z = f63 := ⟨_, rfl⟩
  obtain ⟨x62_12, ex62_12⟩ : ∃ z : Int32, z = v62 := ⟨_, rfl⟩
  obtain ⟨x64_12, ex64_12⟩ : ∃ z : Int32, z = v64 := ⟨_, rfl⟩
  obtain ⟨x66_12, ex66_12⟩ : ∃ z : Int32, z = 0 := ⟨_, rfl⟩
  replace hsp : lp_vm_spelling_12 nf n_12 v62 v64 v66 f58 f59 f60 f61 f65 f63 l1_12 l2_12 g58_12 g59_12 g60_12 g61_12 g63_12 x62_12 x64_12 x66_12 = some (r0, o58, o59, o60, o61, o63, w62, w64, w66) := by rw [hn_12, el1_12, el2_12, eg58_12, eg59_12, eg60_12, eg61_12, eg63_12, ex62_12, ex64_12, ex66_12]; exact hsp
  replace hl : lv_has ls 5 [(2, .int l2_12), (1, .int l1_12), (0, .ref h0)] := by rw [el1_12, el2_12]; exact hl
  obtain ⟨z12, ez12⟩ : ∃ z : List Value, z = fs_1 := ⟨_, rfl⟩
  have hfh_12_58 : z12[58]? = some (.ref qf58) := by rw [ez12]; exact hfs_1_58
  have hfh_12_59 : z12[59]? = some (.ref qf59) := by rw [ez12]; exact hfs_1_59
  have hfh_12_60 : z12[60]? = some (.ref qf60) := by rw [ez12]; exact hfs_1_60
  have hfh_12_61 : z12[61]? = some (.ref qf61) := by rw [ez12]; exact hfs_1_61
  have hfh_12_62 : z12[62]? = some (.int x62_12) := by rw [ez12, ex62_12]; exact hfs_1_62
  have hfh_12_63 : z12[63]? = some (.ref qf63) := by rw [ez12]; exact hfs_1_63
  have hfh_12_64 : z12[64]? = some (.int x64_12) := by rw [ez12, ex64_12]; exact hfs_1_64
  have hfh_12_65 : z12[65]? = some (.ref qf65) := by rw [ez12]; exact hfs_1_65
  have hfh_12_66 : z12[66]? = some (.int x66_12) := by rw [ez12, ex66_12]; exact hfs_1_66
  have hlh_12 : z12.length = 155 := by rw [ez12]; exact hlfs_1
  have hrh_12 : ∀ j : Nat, j ≠ 62 → j ≠ 64 → j ≠ 66 → z12[j]? = zs[j]? := by rw [ez12]; exact hrs_2
  replace hP : va_P (dC, dI) vwCl [(h0, .inr (13, z12)), (qf58, .inl (cf58, 2000, .inl g58_12)), (qf59, .inl (cf59, 2000, .inl g59_12)), (qf60, .inl (cf60, 2000, .inl g60_12)), (qf61, .inl (cf61, 2000, .inl g61_12)), (qf65, .inl (cf65, 200, .inl f65)), (qf63, .inl (cf63, 40000, .inl g63_12))] H := by rw [ez12, eg58_12, eg59_12, eg60_12, eg61_12, eg63_12]; exact hP
  replace hD : va_D A [(h0, .inr (13, z12)), (qf58, .inl (cf58, 2000, .inl g58_12)), (qf59, .inl (cf59, 2000, .inl g59_12)), (qf60, .inl (cf60, 2000, .inl g60_12)), (qf61, .inl (cf61, 2000, .inl g61_12)), (qf65, .inl (cf65, 200, .inl f65)), (qf63, .inl (cf63, 40000, .inl g63_12))] := by rw [ez12, eg58_12, eg59_12, eg60_12, eg61_12, eg63_12]; exact hD
  clear hn_12 ez12 el1_12 el2_12 eg58_12 eg59_12 eg60_12 eg61_12 eg63_12 ex62_12 ex64_12 ex66_12
  try clear hlo
  try clear hH
  revert hsp
  revert hP
  revert hD
  revert hS
  revert hl
  revert hrh_12
  revert hlh_12
  revert hfh_12_66
  revert hfh_12_65
  revert hfh_12_64
  revert hfh_12_63
  revert hfh_12_62
  revert hfh_12_61
  revert hfh_12_60
  revert hfh_12_59
  revert hfh_12_58
  revert x66_12
  revert x64_12
  revert x62_12
  revert g63_12
  revert g61_12
  revert g60_12
  revert g59_12
  revert g58_12
  revert l2_12
  revert l1_12
  revert z12
  revert ls
  revert locs
  revert H
  induction n_12 with
  | zero => intro H locs ls z12 l1_12 l2_12 g58_12 g59_12 g60_12 g61_12 g63_12 x62_12 x64_12 x66_12 hfh_12_58 hfh_12_59 hfh_12_60 hfh_12_61 hfh_12_62 hfh_12_63 hfh_12_64 hfh_12_65 hfh_12_66 hlh_12 hrh_12 hl hS hD hP hsp; unfold lp_vm_spelling_12 at hsp; cases hsp
  | succ n_12 ih_12 =>
    intro H locs ls z12 l1_12 l2_12 g58_12 g59_12 g60_12 g61_12 g63_12 x62_12 x64_12 x66_12 hfh_12_58 hfh_12_59 hfh_12_60 hfh_12_61 hfh_12_62 hfh_12_63 hfh_12_64 hfh_12_65 hfh_12_66 hlh_12 hrh_12 hl hS hD hP hsp
    unfold lp_vm_spelling_12 at hsp
    try dsimp only at hsp
    refine jn_use (α := Heap × List Loc × Array Slot × List Value × Int32 × Int32 × Int32 × (Nat → Int32) × (Nat → Int32) × (Nat → Int32) × (Nat → Int32) × (Nat → Int32) × Int32 × Int32 × Int32) (fun x9 => x9.1) (fun x9 => x9.2.1) (fun x9 => F0 m 45 x9.2.2.1 [.int (x9.2.2.2.2.2.2.1)]) (fun x9 => match x9 with | (H, locs, ls, z45, l1_45, l2_45, s0_45, g58_45, g59_45, g60_45, g61_45, g63_45, x62_45, x64_45, x66_45) => lv_has ls 5 [(0, .ref h0), (1, .int l1_45), (2, .int l2_45)] ∧ va_S A s.heap H locs ∧ va_D A [(h0, .inr (13, z45)), (qf58, .inl (cf58, 2000, .inl g58_45)), (qf59, .inl (cf59, 2000, .inl g59_45)), (qf60, .inl (cf60, 2000, .inl g60_45)), (qf61, .inl (cf61, 2000, .inl g61_45)), (qf65, .inl (cf65, 200, .inl f65)), (qf63, .inl (cf63, 40000, .inl g63_45))] ∧ va_P (dC, dI) vwCl [(h0, .inr (13, z45)), (qf58, .inl (cf58, 2000, .inl g58_45)), (qf59, .inl (cf59, 2000, .inl g59_45)), (qf60, .inl (cf60, 2000, .inl g60_45)), (qf61, .inl (cf61, 2000, .inl g61_45)), (qf65, .inl (cf65, 200, .inl f65)), (qf63, .inl (cf63, 40000, .inl g63_45))] H ∧ z45[58]? = some (.ref qf58) ∧ z45[59]? = some (.ref qf59) ∧ z45[60]? = some (.ref qf60) ∧ z45[61]? = some (.ref qf61) ∧ z45[62]? = some (.int x62_45) ∧ z45[63]? = some (.ref qf63) ∧ z45[64]? = some (.int x64_45) ∧ z45[65]? = some (.ref qf65) ∧ z45[66]? = some (.int x66_45) ∧ z45.length = 155 ∧ (∀ j : Nat, j ≠ 62 → j ≠ 64 → j ≠ 66 → z45[j]? = zs[j]?) ∧ jn_vm_spelling_45 nf v62 v64 v66 f58 f59 f60 f61 f65 f63 (lp_vm_spelling_12 nf n_12 v62 v64 v66 f58 f59 f60 f61 f65 f63) l1_45 l2_45 s0_45 g58_45 g59_45 g60_45 g61_45 g63_45 x62_45 x64_45 x66_45 = some (r0, o58, o59, o60, o61, o63, w62, w64, w66)) ?_ ?_
    · intro x9 hJ9
      obtain ⟨H, locs, ls, z45, l1_45, l2_45, s0_45, g58_45, g59_45, g60_45, g61_45, g63_45, x62_45, x64_45, x66_45⟩ := x9
      obtain ⟨hl, hS, hD, hP, hfh_45_58, hfh_45_59, hfh_45_60, hfh_45_61, hfh_45_62, hfh_45_63, hfh_45_64, hfh_45_65, hfh_45_66, hlh_45, hrh_45, hsp⟩ := hJ9
      replace hl : lv_has ls 5 [(0, .ref h0), (1, .int l1_45), (2, .int l2_45)] := hl
      replace hS : va_S A s.heap H locs := hS
      replace hD : va_D A [(h0, .inr (13, z45)), (qf58, .inl (cf58, 2000, .inl g58_45)), (qf59, .inl (cf59, 2000, .inl g59_45)), (qf60, .inl (cf60, 2000, .inl g60_45)), (qf61, .inl (cf61, 2000, .inl g61_45)), (qf65, .inl (cf65, 200, .inl f65)), (qf63, .inl (cf63, 40000, .inl g63_45))] := hD
      replace hP : va_P (dC, dI) vwCl [(h0, .inr (13, z45)), (qf58, .inl (cf58, 2000, .inl g58_45)), (qf59, .inl (cf59, 2000, .inl g59_45)), (qf60, .inl (cf60, 2000, .inl g60_45)), (qf61, .inl (cf61, 2000, .inl g61_45)), (qf65, .inl (cf65, 200, .inl f65)), (qf63, .inl (cf63, 40000, .inl g63_45))] H := hP
      replace hsp : jn_vm_spelling_45 nf v62 v64 v66 f58 f59 f60 f61 f65 f63 (lp_vm_spelling_12 nf n_12 v62 v64 v66 f58 f59 f60 f61 f65 f63) l1_45 l2_45 s0_45 g58_45 g59_45 g60_45 g61_45 g63_45 x62_45 x64_45 x66_45 = some (r0, o58, o59, o60, o61, o63, w62, w64, w66) := hsp
      show W _ _ _ _ _ _ _ _ _ _ H locs _ _ _ (F0 m 45 ls [.int s0_45])
      unfold jn_vm_spelling_45 at hsp
      try dsimp only at hsp
      refine lv_istore_n (lv' := [(3, .int s0_45), (0, .ref h0), (1, .int l1_45), (2, .int l2_45)]) hx hb dX13_spelling_45 rfl hl (by decide) rfl (fun ls hl => ?_)
      refine lv_iconst (v := 0) hx hb dX13_spelling_46 (by decide) ?_
      refine lv_istore (lv' := [(4, .int 0), (3, .int s0_45), (0, .ref h0), (1, .int l1_45), (2, .int l2_45)]) hx hb dX13_spelling_47 hl (by decide) rfl (fun ls hl => ?_)
      replace hl : lv_has ls 5 [(4, .int 0), (3, .int s0_45), (0, .ref h0), (1, .int l1_45), (2, .int l2_45)] := lv_sub hl [0, 1, 2, 3, 4] rfl
      replace hP := hP.sub (ws' := [(h0, .inr (13, z45)), (qf58, .inl (cf58, 2000, .inl g58_45)), (qf59, .inl (cf59, 2000, .inl g59_45)), (qf60, .inl (cf60, 2000, .inl g60_45)), (qf61, .inl (cf61, 2000, .inl g61_45)), (qf65, .inl (cf65, 200, .inl f65)), (qf63, .inl (cf63, 40000, .inl g63_45))]) [0, 1, 2, 3, 4, 5, 6] rfl
      replace hD := hD.sub (ws' := [(h0, .inr (13, z45)), (qf58, .inl (cf58, 2000, .inl g58_45)), (qf59, .inl (cf59, 2000, .inl g59_45)), (qf60, .inl (cf60, 2000, .inl g60_45)), (qf61, .inl (cf61, 2000, .inl g61_45)), (qf65, .inl (cf65, 200, .inl f65)), (qf63, .inl (cf63, 40000, .inl g63_45))]) [0, 1, 2, 3, 4, 5, 6] (by decide) rfl
      replace hK := hK.sub (tys' := [(cf58, .int), (cf59, .int), (cf60, .int), (cf61, .int), (cf65, .int), (cf63, .int)]) [0, 1, 2, 3, 4, 5] rfl
      obtain ⟨n_49, hn_49⟩ : ∃ z : Nat, z = nf := ⟨_, rfl⟩
      obtain ⟨l1_49, el1_49⟩ : ∃ z : Int32, z = l1_45 := ⟨_, rfl⟩
      obtain ⟨l2_49, el2_49⟩ : ∃ z : Int32, z = l2_45 := ⟨_, rfl⟩
      obtain ⟨l3_49, el3_49⟩ : ∃ z : Int32, z = s0_45 := ⟨_, rfl⟩
      obtain ⟨l4_49, el4_49⟩ : ∃ z : Int32, z = 0 := ⟨_, rfl⟩
      obtain ⟨g58_49, eg58_49⟩ : ∃ z : Nat → Int32, z = g58_45 := ⟨_, rfl⟩
      obtain ⟨g59_49, eg59_49⟩ : ∃ z : Nat → Int32, z = g59_45 := ⟨_, rfl⟩
      obtain ⟨g60_49, eg60_49⟩ : ∃ z : Nat → Int32, z = g60_45 := ⟨_, rfl⟩
      obtain ⟨g61_49, eg61_49⟩ : ∃ z : Nat → Int32, z = g61_45 := ⟨_, rfl⟩
      obtain ⟨g63_49, eg63_49⟩ : ∃ z : Nat → Int32, z = g63_45 := ⟨_, rfl⟩
      obtain ⟨x62_49, ex62_49⟩ : ∃ z : Int32, z = x62_45 := ⟨_, rfl⟩
      obtain ⟨x64_49, ex64_49⟩ : ∃ z : Int32, z = x64_45 := ⟨_, rfl⟩
      obtain ⟨x66_49, ex66_49⟩ : ∃ z : Int32, z = x66_45 := ⟨_, rfl⟩
      replace hsp : lp_vm_spelling_49 nf n_49 v62 v64 v66 f58 f59 f60 f61 f65 f63 (lp_vm_spelling_12 nf n_12 v62 v64 v66 f58 f59 f60 f61 f65 f63) l1_49 l2_49 l3_49 l4_49 g58_49 g59_49 g60_49 g61_49 g63_49 x62_49 x64_49 x66_49 = some (r0, o58, o59, o60, o61, o63, w62, w64, w66) := by rw [hn_49, el1_49, el2_49, el3_49, el4_49, eg58_49, eg59_49, eg60_49, eg61_49, eg63_49, ex62_49, ex64_49, ex66_49]; exact hsp
      replace hl : lv_has ls 5 [(4, .int l4_49), (3, .int l3_49), (0, .ref h0), (1, .int l1_49), (2, .int l2_49)] := by rw [el1_49, el2_49, el3_49, el4_49]; exact hl
      obtain ⟨z49, ez49⟩ : ∃ z : List Value, z = z45 := ⟨_, rfl⟩
      have hfh_49_58 : z49[58]? = some (.ref qf58) := by rw [ez49]; exact hfh_45_58
      have hfh_49_59 : z49[59]? = some (.ref qf59) := by rw [ez49]; exact hfh_45_59
      have hfh_49_60 : z49[60]? = some (.ref qf60) := by rw [ez49]; exact hfh_45_60
      have hfh_49_61 : z49[61]? = some (.ref qf61) := by rw [ez49]; exact hfh_45_61
      have hfh_49_62 : z49[62]? = some (.int x62_49) := by rw [ez49, ex62_49]; exact hfh_45_62
      have hfh_49_63 : z49[63]? = some (.ref qf63) := by rw [ez49]; exact hfh_45_63
      have hfh_49_64 : z49[64]? = some (.int x64_49) := by rw [ez49, ex64_49]; exact hfh_45_64
      have hfh_49_65 : z49[65]? = some (.ref qf65) := by rw [ez49]; exact hfh_45_65
      have hfh_49_66 : z49[66]? = some (.int x66_49) := by rw [ez49, ex66_49]; exact hfh_45_66
      have hlh_49 : z49.length = 155 := by rw [ez49]; exact hlh_45
      have hrh_49 : ∀ j : Nat, j ≠ 62 → j ≠ 64 → j ≠ 66 → z49[j]? = zs[j]? := by rw [ez49]; exact hrh_45
      replace hP : va_P (dC, dI) vwCl [(h0, .inr (13, z49)), (qf58, .inl (cf58, 2000, .inl g58_49)), (qf59, .inl (cf59, 2000, .inl g59_49)), (qf60, .inl (cf60, 2000, .inl g60_49)), (qf61, .inl (cf61, 2000, .inl g61_49)), (qf65, .inl (cf65, 200, .inl f65)), (qf63, .inl (cf63, 40000, .inl g63_49))] H := by rw [ez49, eg58_49, eg59_49, eg60_49, eg61_49, eg63_49]; exact hP
      replace hD : va_D A [(h0, .inr (13, z49)), (qf58, .inl (cf58, 2000, .inl g58_49)), (qf59, .inl (cf59, 2000, .inl g59_49)), (qf60, .inl (cf60, 2000, .inl g60_49)), (qf61, .inl (cf61, 2000, .inl g61_49)), (qf65, .inl (cf65, 200, .inl f65)), (qf63, .inl (cf63, 40000, .inl g63_49))] := by rw [ez49, eg58_49, eg59_49, eg60_49, eg61_49, eg63_49]; exact hD
      clear hn_49 ez49 el1_49 el2_49 el3_49 el4_49 eg58_49 eg59_49 eg60_49 eg61_49 eg63_49 ex62_49 ex64_49 ex66_49
      try clear hlo
      try clear hH
      revert hsp
      revert hP
      revert hD
      revert hS
      revert hl
      revert hrh_49
      revert hlh_49
      revert hfh_49_66
      revert hfh_49_65
      revert hfh_49_64
      revert hfh_49_63
      revert hfh_49_62
      revert hfh_49_61
      revert hfh_49_60
      revert hfh_49_59
      revert hfh_49_58
      revert x66_49
      revert x64_49
      revert x62_49
      revert g63_49
      revert g61_49
      revert g60_49
      revert g59_49
      revert g58_49
      revert l4_49
      revert l3_49
      revert l2_49
      revert l1_49
      revert z49
      revert ls
      revert locs
      revert H
      induction n_49 with
      | zero => intro H locs ls z49 l1_49 l2_49 l3_49 l4_49 g58_49 g59_49 g60_49 g61_49 g63_49 x62_49 x64_49 x66_49 hfh_49_58 hfh_49_59 hfh_49_60 hfh_49_61 hfh_49_62 hfh_49_63 hfh_49_64 hfh_49_65 hfh_49_66 hlh_49 hrh_49 hl hS hD hP hsp; unfold lp_vm_spelling_49 at hsp; cases hsp
      | succ n_49 ih_49 =>
        intro H locs ls z49 l1_49 l2_49 l3_49 l4_49 g58_49 g59_49 g60_49 g61_49 g63_49 x62_49 x64_49 x66_49 hfh_49_58 hfh_49_59 hfh_49_60 hfh_49_61 hfh_49_62 hfh_49_63 hfh_49_64 hfh_49_65 hfh_49_66 hlh_49 hrh_49 hl hS hD hP hsp
        unfold lp_vm_spelling_49 at hsp
        try dsimp only at hsp
        refine lv_iload hx hb dX13_spelling_49 (lv_at hl 0 rfl) ?_
        refine lv_iload_n hx hb dX13_spelling_51 rfl (lv_at hl 3 rfl) ?_
        refine lv_icmp_ge (tgt := 95) hx hb dX13_spelling_52 (by decide) (fun c_14 => ?_) (fun c_14 => ?_)
        · rw [if_pos c_14] at hsp
          refine lv_iload_n hx hb dX13_spelling_95 rfl (lv_at hl 1 rfl) ?_
          refine lv_if_eq (tgt := 101) hx hb dX13_spelling_96 (by decide) (fun c_15 => ?_) (fun c_15 => ?_)
          · rw [if_pos c_15] at hsp
            refine lv_iinc (v := (l2_49 + 1)) (lv' := [(2, .int (l2_49 + 1)), (4, .int l4_49), (3, .int l3_49), (0, .ref h0), (1, .int l1_49)]) hx hb dX13_spelling_101 hl (k := 4) rfl rfl (by decide) rfl (fun ls hl => ?_)
            refine lv_goto (tgt := 12) hx hb dX13_spelling_104 (by decide) ?_
            exact ih_12 H locs ls z49 l1_49 (l2_49 + 1) g58_49 g59_49 g60_49 g61_49 g63_49 x62_49 x64_49 x66_49 (hfh_49_58) (hfh_49_59) (hfh_49_60) (hfh_49_61) (hfh_49_62) (hfh_49_63) (hfh_49_64) (hfh_49_65) (hfh_49_66) hlh_49 hrh_49 (lv_sub hl [0, 4, 3] rfl) hS (hD.sub (ws' := [(h0, .inr (13, z49)), (qf58, .inl (cf58, 2000, .inl g58_49)), (qf59, .inl (cf59, 2000, .inl g59_49)), (qf60, .inl (cf60, 2000, .inl g60_49)), (qf61, .inl (cf61, 2000, .inl g61_49)), (qf65, .inl (cf65, 200, .inl f65)), (qf63, .inl (cf63, 40000, .inl g63_49))]) [0, 1, 2, 3, 4, 5, 6] (by decide) rfl) (hP.sub (ws' := [(h0, .inr (13, z49)), (qf58, .inl (cf58, 2000, .inl g58_49)), (qf59, .inl (cf59, 2000, .inl g59_49)), (qf60, .inl (cf60, 2000, .inl g60_49)), (qf61, .inl (cf61, 2000, .inl g61_49)), (qf65, .inl (cf65, 200, .inl f65)), (qf63, .inl (cf63, 40000, .inl g63_49))]) [0, 1, 2, 3, 4, 5, 6] rfl) hsp
          · rw [if_neg c_15] at hsp
            refine lv_iload_n hx hb dX13_spelling_99 rfl (lv_at hl 4 rfl) ?_
            have hr0 := Option.some.inj hsp
            clear hsp
            obtain ⟨hq0, hr1⟩ := Prod.mk.inj hr0
            clear hr0
            obtain ⟨hq1, hr2⟩ := Prod.mk.inj hr1
            clear hr1
            obtain ⟨hq2, hr3⟩ := Prod.mk.inj hr2
            clear hr2
            obtain ⟨hq3, hr4⟩ := Prod.mk.inj hr3
            clear hr3
            obtain ⟨hq4, hr5⟩ := Prod.mk.inj hr4
            clear hr4
            obtain ⟨hq5, hr6⟩ := Prod.mk.inj hr5
            clear hr5
            obtain ⟨hq6, hr7⟩ := Prod.mk.inj hr6
            clear hr6
            obtain ⟨hq7, hr8⟩ := Prod.mk.inj hr7
            clear hr7
            subst hq0
            subst hq1
            subst hq2
            subst hq3
            subst hq4
            subst hq5
            subst hq6
            subst hq7
            subst hr8
            have hP9 := hP.sub (ws' := [(h0, .inr (13, z49)), (qf58, .inl (cf58, 2000, .inl g58_49)), (qf59, .inl (cf59, 2000, .inl g59_49)), (qf60, .inl (cf60, 2000, .inl g60_49)), (qf61, .inl (cf61, 2000, .inl g61_49)), (qf65, .inl (cf65, 200, .inl f65)), (qf63, .inl (cf63, 40000, .inl g63_49))]) [0, 1, 2, 3, 4, 5, 6] rfl
            have hD9 := hD.sub (ws' := [(h0, .inr (13, z49)), (qf58, .inl (cf58, 2000, .inl g58_49)), (qf59, .inl (cf59, 2000, .inl g59_49)), (qf60, .inl (cf60, 2000, .inl g60_49)), (qf61, .inl (cf61, 2000, .inl g61_49)), (qf65, .inl (cf65, 200, .inl f65)), (qf63, .inl (cf63, 40000, .inl g63_49))]) [0, 1, 2, 3, 4, 5, 6] (by decide) rfl
            have hK9 := hK.sub (tys' := [(cf58, .int), (cf59, .int), (cf60, .int), (cf61, .int), (cf65, .int), (cf63, .int)]) [0, 1, 2, 3, 4, 5] rfl
            exact W.iret hx hb hr (fun t ht hW => ⟨⟨(l2_49), (z49), rfl, ⟨rfl, hlh_49, hrh_49, hfh_49_62, hfh_49_64, hfh_49_66⟩, by rw [ht]; exact hP9, va_K.moved hW.alike hK9, hD9⟩, hS.F ht⟩) hS.2.2 dX13_spelling_100
        · rw [if_neg c_14] at hsp
          refine lv_iload_n hx hb dX13_spelling_55 rfl (lv_at hl 1 rfl) ?_
          refine lv_if_eq (tgt := 95) hx hb dX13_spelling_56 (by decide) (fun c_16 => ?_) (fun c_16 => ?_)
          · rw [if_pos c_16] at hsp
            refine lv_iload_n hx hb dX13_spelling_95 rfl (lv_at hl 1 rfl) ?_
            refine lv_if_eq (tgt := 101) hx hb dX13_spelling_96 (by decide) (fun c_17 => ?_) (fun c_17 => ?_)
            · rw [if_pos c_17] at hsp
              refine lv_iinc (v := (l2_49 + 1)) (lv' := [(2, .int (l2_49 + 1)), (4, .int l4_49), (3, .int l3_49), (0, .ref h0), (1, .int l1_49)]) hx hb dX13_spelling_101 hl (k := 4) rfl rfl (by decide) rfl (fun ls hl => ?_)
              refine lv_goto (tgt := 12) hx hb dX13_spelling_104 (by decide) ?_
              exact ih_12 H locs ls z49 l1_49 (l2_49 + 1) g58_49 g59_49 g60_49 g61_49 g63_49 x62_49 x64_49 x66_49 (hfh_49_58) (hfh_49_59) (hfh_49_60) (hfh_49_61) (hfh_49_62) (hfh_49_63) (hfh_49_64) (hfh_49_65) (hfh_49_66) hlh_49 hrh_49 (lv_sub hl [0, 4, 3] rfl) hS (hD.sub (ws' := [(h0, .inr (13, z49)), (qf58, .inl (cf58, 2000, .inl g58_49)), (qf59, .inl (cf59, 2000, .inl g59_49)), (qf60, .inl (cf60, 2000, .inl g60_49)), (qf61, .inl (cf61, 2000, .inl g61_49)), (qf65, .inl (cf65, 200, .inl f65)), (qf63, .inl (cf63, 40000, .inl g63_49))]) [0, 1, 2, 3, 4, 5, 6] (by decide) rfl) (hP.sub (ws' := [(h0, .inr (13, z49)), (qf58, .inl (cf58, 2000, .inl g58_49)), (qf59, .inl (cf59, 2000, .inl g59_49)), (qf60, .inl (cf60, 2000, .inl g60_49)), (qf61, .inl (cf61, 2000, .inl g61_49)), (qf65, .inl (cf65, 200, .inl f65)), (qf63, .inl (cf63, 40000, .inl g63_49))]) [0, 1, 2, 3, 4, 5, 6] rfl) hsp
            · rw [if_neg c_17] at hsp
              refine lv_iload_n hx hb dX13_spelling_99 rfl (lv_at hl 4 rfl) ?_
              have hr0 := Option.some.inj hsp
              clear hsp
              obtain ⟨hq0, hr1⟩ := Prod.mk.inj hr0
              clear hr0
              obtain ⟨hq1, hr2⟩ := Prod.mk.inj hr1
              clear hr1
              obtain ⟨hq2, hr3⟩ := Prod.mk.inj hr2
              clear hr2
              obtain ⟨hq3, hr4⟩ := Prod.mk.inj hr3
              clear hr3
              obtain ⟨hq4, hr5⟩ := Prod.mk.inj hr4
              clear hr4
              obtain ⟨hq5, hr6⟩ := Prod.mk.inj hr5
              clear hr5
              obtain ⟨hq6, hr7⟩ := Prod.mk.inj hr6
              clear hr6
              obtain ⟨hq7, hr8⟩ := Prod.mk.inj hr7
              clear hr7
              subst hq0
              subst hq1
              subst hq2
              subst hq3
              subst hq4
              subst hq5
              subst hq6
              subst hq7
              subst hr8
              have hP9 := hP.sub (ws' := [(h0, .inr (13, z49)), (qf58, .inl (cf58, 2000, .inl g58_49)), (qf59, .inl (cf59, 2000, .inl g59_49)), (qf60, .inl (cf60, 2000, .inl g60_49)), (qf61, .inl (cf61, 2000, .inl g61_49)), (qf65, .inl (cf65, 200, .inl f65)), (qf63, .inl (cf63, 40000, .inl g63_49))]) [0, 1, 2, 3, 4, 5, 6] rfl
              have hD9 := hD.sub (ws' := [(h0, .inr (13, z49)), (qf58, .inl (cf58, 2000, .inl g58_49)), (qf59, .inl (cf59, 2000, .inl g59_49)), (qf60, .inl (cf60, 2000, .inl g60_49)), (qf61, .inl (cf61, 2000, .inl g61_49)), (qf65, .inl (cf65, 200, .inl f65)), (qf63, .inl (cf63, 40000, .inl g63_49))]) [0, 1, 2, 3, 4, 5, 6] (by decide) rfl
              have hK9 := hK.sub (tys' := [(cf58, .int), (cf59, .int), (cf60, .int), (cf61, .int), (cf65, .int), (cf63, .int)]) [0, 1, 2, 3, 4, 5] rfl
              exact W.iret hx hb hr (fun t ht hW => ⟨⟨(l2_49), (z49), rfl, ⟨rfl, hlh_49, hrh_49, hfh_49_62, hfh_49_64, hfh_49_66⟩, by rw [ht]; exact hP9, va_K.moved hW.alike hK9, hD9⟩, hS.F ht⟩) hS.2.2 dX13_spelling_100
          · rw [if_neg c_16] at hsp
            refine lv_aload_n hx hb dX13_spelling_59 rfl (lv_at hl 2 rfl) ?_
            refine va_get (D := (dC, dI)) (ci := 13) (v := .ref qf63) (C := RX13) (T := TX13) (N := 155) hx hb hts uV_h9_X13 hown hK hP 0 rfl rfl 63 (by decide) (hts (.fieldLink RX13 141 "ClassMillModel" "letters" "[I") mw_h9_211) (fun _ h9 => h9) hfh_49_63 dX13_spelling_60 ?_
            refine lv_aload_n hx hb dX13_spelling_63 rfl (lv_at hl 2 rfl) ?_
            refine va_get (D := (dC, dI)) (ci := 13) (v := .ref qf59) (C := RX13) (T := TX13) (N := 155) hx hb hts uV_h9_X13 hown hK hP 0 rfl rfl 59 (by decide) (hts (.fieldLink RX13 131 "ClassMillModel" "constantOne" "[I") mw_h9_164) (fun _ h9 => h9) hfh_49_59 dX13_spelling_64 ?_
            refine lv_iload_n hx hb dX13_spelling_67 rfl (lv_at hl 4 rfl) ?_
            obtain ⟨hi_18, hsp⟩ := ox_in hsp
            refine va_iald hx hb hK hP 2 1 rfl rfl (i := l2_49) hi_18 dX13_spelling_68 ?_
            refine lv_iload hx hb dX13_spelling_69 (lv_at hl 0 rfl) ?_
            refine lv_iadd hx hb dX13_spelling_71 ?_
            obtain ⟨hi_19, hsp⟩ := ox_in hsp
            refine va_iald hx hb hK hP 6 5 rfl rfl (i := ((g59_49 (l2_49 : Int32).toNatClampNeg) + l4_49)) hi_19 dX13_spelling_72 ?_
            refine lv_aload_n hx hb dX13_spelling_73 rfl (lv_at hl 2 rfl) ?_
            refine va_get (D := (dC, dI)) (ci := 13) (v := .ref qf65) (C := RX13) (T := TX13) (N := 155) hx hb hts uV_h9_X13 hown hK hP 0 rfl rfl 65 (by decide) (hts (.fieldLink RX13 144 "ClassMillModel" "spelled" "[I") mw_h9_404) (fun _ h9 => h9) hfh_49_65 dX13_spelling_74 ?_
            refine lv_iload hx hb dX13_spelling_77 (lv_at hl 0 rfl) ?_
            obtain ⟨hi_20, hsp⟩ := ox_in hsp
            refine va_iald hx hb hK hP 5 4 rfl rfl (i := l4_49) hi_20 dX13_spelling_79 ?_
            refine lv_icmp_ne (tgt := 87) hx hb dX13_spelling_80 (by decide) (fun c_21 => ?_) (fun c_21 => ?_)
            · rw [if_neg c_21] at hsp
              refine lv_iconst (v := 0) hx hb dX13_spelling_87 (by decide) ?_
              refine lv_istore_n (lv' := [(3, .int 0), (4, .int l4_49), (0, .ref h0), (1, .int l1_49), (2, .int l2_49)]) hx hb dX13_spelling_88 rfl hl (by decide) rfl (fun ls hl => ?_)
              refine lv_iinc (v := (l4_49 + 1)) (lv' := [(4, .int (l4_49 + 1)), (3, .int 0), (0, .ref h0), (1, .int l1_49), (2, .int l2_49)]) hx hb dX13_spelling_89 hl (k := 1) rfl rfl (by decide) rfl (fun ls hl => ?_)
              refine lv_goto (tgt := 49) hx hb dX13_spelling_92 (by decide) ?_
              exact ih_49 H locs ls z49 l1_49 l2_49 0 (l4_49 + 1) g58_49 g59_49 g60_49 g61_49 g63_49 x62_49 x64_49 x66_49 (hfh_49_58) (hfh_49_59) (hfh_49_60) (hfh_49_61) (hfh_49_62) (hfh_49_63) (hfh_49_64) (hfh_49_65) (hfh_49_66) hlh_49 hrh_49 (lv_sub hl [0, 1, 2, 3, 4] rfl) hS (hD.sub (ws' := [(h0, .inr (13, z49)), (qf58, .inl (cf58, 2000, .inl g58_49)), (qf59, .inl (cf59, 2000, .inl g59_49)), (qf60, .inl (cf60, 2000, .inl g60_49)), (qf61, .inl (cf61, 2000, .inl g61_49)), (qf65, .inl (cf65, 200, .inl f65)), (qf63, .inl (cf63, 40000, .inl g63_49))]) [0, 1, 2, 3, 4, 5, 6] (by decide) rfl) (hP.sub (ws' := [(h0, .inr (13, z49)), (qf58, .inl (cf58, 2000, .inl g58_49)), (qf59, .inl (cf59, 2000, .inl g59_49)), (qf60, .inl (cf60, 2000, .inl g60_49)), (qf61, .inl (cf61, 2000, .inl g61_49)), (qf65, .inl (cf65, 200, .inl f65)), (qf63, .inl (cf63, 40000, .inl g63_49))]) [0, 1, 2, 3, 4, 5, 6] rfl) hsp
            · rw [if_pos c_21] at hsp
              refine lv_iconst (v := 1) hx hb dX13_spelling_83 (by decide) ?_
              refine lv_goto (tgt := 88) hx hb dX13_spelling_84 (by decide) ?_
              refine lv_istore_n (lv' := [(3, .int 1), (4, .int l4_49), (0, .ref h0), (1, .int l1_49), (2, .int l2_49)]) hx hb dX13_spelling_88 rfl hl (by decide) rfl (fun ls hl => ?_)
              refine lv_iinc (v := (l4_49 + 1)) (lv' := [(4, .int (l4_49 + 1)), (3, .int 1), (0, .ref h0), (1, .int l1_49), (2, .int l2_49)]) hx hb dX13_spelling_89 hl (k := 1) rfl rfl (by decide) rfl (fun ls hl => ?_)
              refine lv_goto (tgt := 49) hx hb dX13_spelling_92 (by decide) ?_
              exact ih_49 H locs ls z49 l1_49 l2_49 1 (l4_49 + 1) g58_49 g59_49 g60_49 g61_49 g63_49 x62_49 x64_49 x66_49 (hfh_49_58) (hfh_49_59) (hfh_49_60) (hfh_49_61) (hfh_49_62) (hfh_49_63) (hfh_49_64) (hfh_49_65) (hfh_49_66) hlh_49 hrh_49 (lv_sub hl [0, 1, 2, 3, 4] rfl) hS (hD.sub (ws' := [(h0, .inr (13, z49)), (qf58, .inl (cf58, 2000, .inl g58_49)), (qf59, .inl (cf59, 2000, .inl g59_49)), (qf60, .inl (cf60, 2000, .inl g60_49)), (qf61, .inl (cf61, 2000, .inl g61_49)), (qf65, .inl (cf65, 200, .inl f65)), (qf63, .inl (cf63, 40000, .inl g63_49))]) [0, 1, 2, 3, 4, 5, 6] (by decide) rfl) (hP.sub (ws' := [(h0, .inr (13, z49)), (qf58, .inl (cf58, 2000, .inl g58_49)), (qf59, .inl (cf59, 2000, .inl g59_49)), (qf60, .inl (cf60, 2000, .inl g60_49)), (qf61, .inl (cf61, 2000, .inl g61_49)), (qf65, .inl (cf65, 200, .inl f65)), (qf63, .inl (cf63, 40000, .inl g63_49))]) [0, 1, 2, 3, 4, 5, 6] rfl) hsp
    intro hj_45
    refine jn_use (α := Heap × List Loc × Array Slot × List Value × Int32 × Int32 × (Nat → Int32) × (Nat → Int32) × (Nat → Int32) × (Nat → Int32) × (Nat → Int32) × Int32 × Int32 × Int32) (fun x9 => x9.1) (fun x9 => x9.2.1) (fun x9 => F0 m 44 x9.2.2.1 []) (fun x9 => match x9 with | (H, locs, ls, z44, l1_44, l2_44, g58_44, g59_44, g60_44, g61_44, g63_44, x62_44, x64_44, x66_44) => lv_has ls 5 [(0, .ref h0), (1, .int l1_44), (2, .int l2_44)] ∧ va_S A s.heap H locs ∧ va_D A [(h0, .inr (13, z44)), (qf58, .inl (cf58, 2000, .inl g58_44)), (qf59, .inl (cf59, 2000, .inl g59_44)), (qf60, .inl (cf60, 2000, .inl g60_44)), (qf61, .inl (cf61, 2000, .inl g61_44)), (qf65, .inl (cf65, 200, .inl f65)), (qf63, .inl (cf63, 40000, .inl g63_44))] ∧ va_P (dC, dI) vwCl [(h0, .inr (13, z44)), (qf58, .inl (cf58, 2000, .inl g58_44)), (qf59, .inl (cf59, 2000, .inl g59_44)), (qf60, .inl (cf60, 2000, .inl g60_44)), (qf61, .inl (cf61, 2000, .inl g61_44)), (qf65, .inl (cf65, 200, .inl f65)), (qf63, .inl (cf63, 40000, .inl g63_44))] H ∧ z44[58]? = some (.ref qf58) ∧ z44[59]? = some (.ref qf59) ∧ z44[60]? = some (.ref qf60) ∧ z44[61]? = some (.ref qf61) ∧ z44[62]? = some (.int x62_44) ∧ z44[63]? = some (.ref qf63) ∧ z44[64]? = some (.int x64_44) ∧ z44[65]? = some (.ref qf65) ∧ z44[66]? = some (.int x66_44) ∧ z44.length = 155 ∧ (∀ j : Nat, j ≠ 62 → j ≠ 64 → j ≠ 66 → z44[j]? = zs[j]?) ∧ jn_vm_spelling_44 nf v62 v64 v66 f58 f59 f60 f61 f65 f63 (lp_vm_spelling_12 nf n_12 v62 v64 v66 f58 f59 f60 f61 f65 f63) l1_44 l2_44 g58_44 g59_44 g60_44 g61_44 g63_44 x62_44 x64_44 x66_44 = some (r0, o58, o59, o60, o61, o63, w62, w64, w66)) ?_ ?_
    · intro x9 hJ9
      obtain ⟨H, locs, ls, z44, l1_44, l2_44, g58_44, g59_44, g60_44, g61_44, g63_44, x62_44, x64_44, x66_44⟩ := x9
      obtain ⟨hl, hS, hD, hP, hfh_44_58, hfh_44_59, hfh_44_60, hfh_44_61, hfh_44_62, hfh_44_63, hfh_44_64, hfh_44_65, hfh_44_66, hlh_44, hrh_44, hsp⟩ := hJ9
      replace hl : lv_has ls 5 [(0, .ref h0), (1, .int l1_44), (2, .int l2_44)] := hl
      replace hS : va_S A s.heap H locs := hS
      replace hD : va_D A [(h0, .inr (13, z44)), (qf58, .inl (cf58, 2000, .inl g58_44)), (qf59, .inl (cf59, 2000, .inl g59_44)), (qf60, .inl (cf60, 2000, .inl g60_44)), (qf61, .inl (cf61, 2000, .inl g61_44)), (qf65, .inl (cf65, 200, .inl f65)), (qf63, .inl (cf63, 40000, .inl g63_44))] := hD
      replace hP : va_P (dC, dI) vwCl [(h0, .inr (13, z44)), (qf58, .inl (cf58, 2000, .inl g58_44)), (qf59, .inl (cf59, 2000, .inl g59_44)), (qf60, .inl (cf60, 2000, .inl g60_44)), (qf61, .inl (cf61, 2000, .inl g61_44)), (qf65, .inl (cf65, 200, .inl f65)), (qf63, .inl (cf63, 40000, .inl g63_44))] H := hP
      replace hsp : jn_vm_spelling_44 nf v62 v64 v66 f58 f59 f60 f61 f65 f63 (lp_vm_spelling_12 nf n_12 v62 v64 v66 f58 f59 f60 f61 f65 f63) l1_44 l2_44 g58_44 g59_44 g60_44 g61_44 g63_44 x62_44 x64_44 x66_44 = some (r0, o58, o59, o60, o61, o63, w62, w64, w66) := hsp
      show W _ _ _ _ _ _ _ _ _ _ H locs _ _ _ (F0 m 44 ls [])
      unfold jn_vm_spelling_44 at hsp
      try dsimp only at hsp
      refine lv_iconst (v := 0) hx hb dX13_spelling_44 (by decide) ?_
      exact hj_45 (H, locs, ls, z44, l1_44, l2_44, 0, g58_44, g59_44, g60_44, g61_44, g63_44, x62_44, x64_44, x66_44) ⟨lv_sub hl [0, 1, 2] rfl, hS, hD.sub (ws' := [(h0, .inr (13, z44)), (qf58, .inl (cf58, 2000, .inl g58_44)), (qf59, .inl (cf59, 2000, .inl g59_44)), (qf60, .inl (cf60, 2000, .inl g60_44)), (qf61, .inl (cf61, 2000, .inl g61_44)), (qf65, .inl (cf65, 200, .inl f65)), (qf63, .inl (cf63, 40000, .inl g63_44))]) [0, 1, 2, 3, 4, 5, 6] (by decide) rfl, hP.sub (ws' := [(h0, .inr (13, z44)), (qf58, .inl (cf58, 2000, .inl g58_44)), (qf59, .inl (cf59, 2000, .inl g59_44)), (qf60, .inl (cf60, 2000, .inl g60_44)), (qf61, .inl (cf61, 2000, .inl g61_44)), (qf65, .inl (cf65, 200, .inl f65)), (qf63, .inl (cf63, 40000, .inl g63_44))]) [0, 1, 2, 3, 4, 5, 6] rfl, hfh_44_58, hfh_44_59, hfh_44_60, hfh_44_61, hfh_44_62, hfh_44_63, hfh_44_64, hfh_44_65, hfh_44_66, hlh_44, hrh_44, hsp⟩
    intro hj_44
    refine lv_iload_n hx hb dX13_spelling_12 rfl (lv_at hl 0 rfl) ?_
    refine lv_aload_n hx hb dX13_spelling_13 rfl (lv_at hl 2 rfl) ?_
    refine va_get (D := (dC, dI)) (ci := 13) (v := .int x62_12) (C := RX13) (T := TX13) (N := 155) hx hb hts uV_h9_X13 hown hK hP 0 rfl rfl 62 (by decide) (hts (.fieldLink RX13 602 "ClassMillModel" "constants" "I") mw_h9_162) (fun _ h9 => h9) hfh_12_62 dX13_spelling_14 ?_
    refine lv_icmp_gt (tgt := 107) hx hb dX13_spelling_17 (by decide) (fun c_3 => ?_) (fun c_3 => ?_)
    · rw [if_pos c_3] at hsp
      refine lv_iconst (v := 0) hx hb dX13_spelling_107 (by decide) ?_
      refine lv_istore_n (lv' := [(2, .int 0), (1, .int l1_12), (0, .ref h0)]) hx hb dX13_spelling_108 rfl hl (by decide) rfl (fun ls hl => ?_)
      replace hl : lv_has ls 5 [(2, .int 0), (1, .int l1_12), (0, .ref h0)] := lv_sub hl [0, 1, 2] rfl
      replace hP := hP.sub (ws' := [(h0, .inr (13, z12)), (qf58, .inl (cf58, 2000, .inl g58_12)), (qf59, .inl (cf59, 2000, .inl g59_12)), (qf60, .inl (cf60, 2000, .inl g60_12)), (qf61, .inl (cf61, 2000, .inl g61_12)), (qf65, .inl (cf65, 200, .inl f65)), (qf63, .inl (cf63, 40000, .inl g63_12))]) [0, 1, 2, 3, 4, 5, 6] rfl
      replace hD := hD.sub (ws' := [(h0, .inr (13, z12)), (qf58, .inl (cf58, 2000, .inl g58_12)), (qf59, .inl (cf59, 2000, .inl g59_12)), (qf60, .inl (cf60, 2000, .inl g60_12)), (qf61, .inl (cf61, 2000, .inl g61_12)), (qf65, .inl (cf65, 200, .inl f65)), (qf63, .inl (cf63, 40000, .inl g63_12))]) [0, 1, 2, 3, 4, 5, 6] (by decide) rfl
      replace hK := hK.sub (tys' := [(cf58, .int), (cf59, .int), (cf60, .int), (cf61, .int), (cf65, .int), (cf63, .int)]) [0, 1, 2, 3, 4, 5] rfl
      obtain ⟨n_109, hn_109⟩ : ∃ z : Nat, z = nf := ⟨_, rfl⟩
      obtain ⟨l1_109, el1_109⟩ : ∃ z : Int32, z = l1_12 := ⟨_, rfl⟩
      obtain ⟨l2_109, el2_109⟩ : ∃ z : Int32, z = 0 := ⟨_, rfl⟩
      obtain ⟨g58_109, eg58_109⟩ : ∃ z : Nat → Int32, z = g58_12 := ⟨_, rfl⟩
      obtain ⟨g59_109, eg59_109⟩ : ∃ z : Nat → Int32, z = g59_12 := ⟨_, rfl⟩
      obtain ⟨g60_109, eg60_109⟩ : ∃ z : Nat → Int32, z = g60_12 := ⟨_, rfl⟩
      obtain ⟨g61_109, eg61_109⟩ : ∃ z : Nat → Int32, z = g61_12 := ⟨_, rfl⟩
      obtain ⟨g63_109, eg63_109⟩ : ∃ z : Nat → Int32, z = g63_12 := ⟨_, rfl⟩
      obtain ⟨x62_109, ex62_109⟩ : ∃ z : Int32, z = x62_12 := ⟨_, rfl⟩
      obtain ⟨x64_109, ex64_109⟩ : ∃ z : Int32, z = x64_12 := ⟨_, rfl⟩
      obtain ⟨x66_109, ex66_109⟩ : ∃ z : Int32, z = x66_12 := ⟨_, rfl⟩
      replace hsp : lp_vm_spelling_109 nf n_109 v62 v64 v66 f58 f59 f60 f61 f65 f63 l1_109 l2_109 g58_109 g59_109 g60_109 g61_109 g63_109 x62_109 x64_109 x66_109 = some (r0, o58, o59, o60, o61, o63, w62, w64, w66) := by rw [hn_109, el1_109, el2_109, eg58_109, eg59_109, eg60_109, eg61_109, eg63_109, ex62_109, ex64_109, ex66_109]; exact hsp
      replace hl : lv_has ls 5 [(2, .int l2_109), (1, .int l1_109), (0, .ref h0)] := by rw [el1_109, el2_109]; exact hl
      obtain ⟨z109, ez109⟩ : ∃ z : List Value, z = z12 := ⟨_, rfl⟩
      have hfh_109_58 : z109[58]? = some (.ref qf58) := by rw [ez109]; exact hfh_12_58
      have hfh_109_59 : z109[59]? = some (.ref qf59) := by rw [ez109]; exact hfh_12_59
      have hfh_109_60 : z109[60]? = some (.ref qf60) := by rw [ez109]; exact hfh_12_60
      have hfh_109_61 : z109[61]? = some (.ref qf61) := by rw [ez109]; exact hfh_12_61
      have hfh_109_62 : z109[62]? = some (.int x62_109) := by rw [ez109, ex62_109]; exact hfh_12_62
      have hfh_109_63 : z109[63]? = some (.ref qf63) := by rw [ez109]; exact hfh_12_63
      have hfh_109_64 : z109[64]? = some (.int x64_109) := by rw [ez109, ex64_109]; exact hfh_12_64
      have hfh_109_65 : z109[65]? = some (.ref qf65) := by rw [ez109]; exact hfh_12_65
      have hfh_109_66 : z109[66]? = some (.int x66_109) := by rw [ez109, ex66_109]; exact hfh_12_66
      have hlh_109 : z109.length = 155 := by rw [ez109]; exact hlh_12
      have hrh_109 : ∀ j : Nat, j ≠ 62 → j ≠ 64 → j ≠ 66 → z109[j]? = zs[j]? := by rw [ez109]; exact hrh_12
      replace hP : va_P (dC, dI) vwCl [(h0, .inr (13, z109)), (qf58, .inl (cf58, 2000, .inl g58_109)), (qf59, .inl (cf59, 2000, .inl g59_109)), (qf60, .inl (cf60, 2000, .inl g60_109)), (qf61, .inl (cf61, 2000, .inl g61_109)), (qf65, .inl (cf65, 200, .inl f65)), (qf63, .inl (cf63, 40000, .inl g63_109))] H := by rw [ez109, eg58_109, eg59_109, eg60_109, eg61_109, eg63_109]; exact hP
      replace hD : va_D A [(h0, .inr (13, z109)), (qf58, .inl (cf58, 2000, .inl g58_109)), (qf59, .inl (cf59, 2000, .inl g59_109)), (qf60, .inl (cf60, 2000, .inl g60_109)), (qf61, .inl (cf61, 2000, .inl g61_109)), (qf65, .inl (cf65, 200, .inl f65)), (qf63, .inl (cf63, 40000, .inl g63_109))] := by rw [ez109, eg58_109, eg59_109, eg60_109, eg61_109, eg63_109]; exact hD
      clear hn_109 ez109 el1_109 el2_109 eg58_109 eg59_109 eg60_109 eg61_109 eg63_109 ex62_109 ex64_109 ex66_109
      try clear hlo
      try clear hH
      revert hsp
      revert hP
      revert hD
      revert hS
      revert hl
      revert hrh_109
      revert hlh_109
      revert hfh_109_66
      revert hfh_109_65
      revert hfh_109_64
      revert hfh_109_63
      revert hfh_109_62
      revert hfh_109_61
      revert hfh_109_60
      revert hfh_109_59
      revert hfh_109_58
      revert x66_109
      revert x64_109
      revert x62_109
      revert g63_109
      revert g61_109
      revert g60_109
      revert g59_109
      revert g58_109
      revert l2_109
      revert l1_109
      revert z109
      revert ls
      revert locs
      revert H
      induction n_109 with
      | zero => intro H locs ls z109 l1_109 l2_109 g58_109 g59_109 g60_109 g61_109 g63_109 x62_109 x64_109 x66_109 hfh_109_58 hfh_109_59 hfh_109_60 hfh_109_61 hfh_109_62 hfh_109_63 hfh_109_64 hfh_109_65 hfh_109_66 hlh_109 hrh_109 hl hS hD hP hsp; unfold lp_vm_spelling_109 at hsp; cases hsp
      | succ n_109 ih_109 =>
        intro H locs ls z109 l1_109 l2_109 g58_109 g59_109 g60_109 g61_109 g63_109 x62_109 x64_109 x66_109 hfh_109_58 hfh_109_59 hfh_109_60 hfh_109_61 hfh_109_62 hfh_109_63 hfh_109_64 hfh_109_65 hfh_109_66 hlh_109 hrh_109 hl hS hD hP hsp
        unfold lp_vm_spelling_109 at hsp
        try dsimp only at hsp
        refine lv_iload_n hx hb dX13_spelling_109 rfl (lv_at hl 0 rfl) ?_
        refine lv_iload_n hx hb dX13_spelling_110 rfl (lv_at hl 1 rfl) ?_
        refine lv_icmp_ge (tgt := 137) hx hb dX13_spelling_111 (by decide) (fun c_4 => ?_) (fun c_4 => ?_)
        · rw [if_pos c_4] at hsp
          refine lv_aload_n hx hb dX13_spelling_137 rfl (lv_at hl 2 rfl) ?_
          refine lv_iconst (v := 1) hx hb dX13_spelling_138 (by decide) ?_
          refine lv_aload_n hx hb dX13_spelling_139 rfl (lv_at hl 2 rfl) ?_
          refine va_get (D := (dC, dI)) (ci := 13) (v := .int x64_109) (C := RX13) (T := TX13) (N := 155) hx hb hts uV_h9_X13 hown hK hP 0 rfl rfl 64 (by decide) (hts (.fieldLink RX13 605 "ClassMillModel" "lettered" "I") mw_h9_405) (fun _ h9 => h9) hfh_109_64 dX13_spelling_140 ?_
          refine lv_iload_n hx hb dX13_spelling_143 rfl (lv_at hl 1 rfl) ?_
          refine lv_iconst (v := 0) hx hb dX13_spelling_144 (by decide) ?_
          obtain ⟨⟨u1_0, g901_1, g901_2, g901_3, g901_4, u1_5⟩, hu_1, hsp⟩ := ox_bind hsp
          try dsimp only at hsp
          have hPc := hP.sub (ws' := [(h0, .inr (13, z109)), (qf58, .inl (cf58, 2000, .inl g58_109)), (qf59, .inl (cf59, 2000, .inl g59_109)), (qf60, .inl (cf60, 2000, .inl g60_109)), (qf61, .inl (cf61, 2000, .inl g61_109))]) [0, 1, 2, 3, 4] rfl
          have hDc := hD.sub (ws' := [(h0, .inr (13, z109)), (qf58, .inl (cf58, 2000, .inl g58_109)), (qf59, .inl (cf59, 2000, .inl g59_109)), (qf60, .inl (cf60, 2000, .inl g60_109)), (qf61, .inl (cf61, 2000, .inl g61_109))]) [0, 1, 2, 3, 4] (by decide) rfl
          have hKc := hK.sub (tys' := [(cf58, .int), (cf59, .int), (cf60, .int), (cf61, .int)]) [0, 1, 2, 3] rfl
          have hFc := va_free (wc := [(h0, .inr (13, z109)), (qf58, .inl (cf58, 2000, .inl g58_109)), (qf59, .inl (cf59, 2000, .inl g59_109)), (qf60, .inl (cf60, 2000, .inl g60_109)), (qf61, .inl (cf61, 2000, .inl g61_109))]) hD hS hA [0, 1, 2, 3, 4] rfl
          refine va_calli (va_runV (As := [.int 1, .int x64_109, .int l1_109, .int 0]) (rest := []) ⟨hx, hb, hml, hown, hts⟩ (vm_constant l dC dI H.size h0 z109 1 x64_109 l1_109 0 qf58 qf59 qf60 qf61 x62_109 cf58 g58_109 cf59 g59_109 cf60 g60_109 cf61 g61_109 nf u1_0 g901_1 g901_2 g901_3 g901_4 u1_5 hlh_109 hfh_109_58 hfh_109_59 hfh_109_60 hfh_109_61 hfh_109_62 hu_1) (cwV 4 hts gv_h9_33 rfl rfl rfl (by decide +kernel) ⟨Nat.le_of_ble_eq_true rfl, Nat.le_of_ble_eq_true rfl⟩) ⟨fun a U g mk q => by obtain ⟨q0, q1, qP, qK, qD⟩ := q; exact ⟨q0, q1, qP, va_K.moved (u := U) (U := U.calling g mk a) (Vm.Alike.refl U.vm) qK, qD⟩, va_recv hKc hPc (ci := 13) (q0 := 0) rfl rfl, fun U hU hW => ⟨rfl, by rw [hU], by rw [hU]; exact hPc, va_K.moved hW.alike hKc, hDc.weaken (fun _ _ _ _ => trivial)⟩⟩ rfl rfl hl.1 rfl (lv_room (Nat.le_of_ble_eq_true rfl)) dX13_spelling_145 ⟨Nat.le_of_ble_eq_true rfl, Nat.le_of_ble_eq_true rfl⟩) hS (fun q _ h => hFc q h) hFc ?_
          clear hS
          intro r_5 u t H1 locs ht hvm hw hB hz1 hk1 hS
          obtain ⟨z_1, rfl⟩ : ∃ z, z = u := ⟨_, rfl⟩
          obtain ⟨hP1, hK1, hD1⟩ := hB
          rw [ht] at hP1
          have hK1 := va_K.moved hvm.symm hK1
          try dsimp only at hw
          have hPD := va_join (wr := [(qf65, .inl (cf65, 200, .inl f65)), (qf63, .inl (cf63, 40000, .inl g63_109))]) (w1 := [(h0, .inr (13, z_1)), (qf58, .inl (cf58, 2000, .inl g901_1)), (qf59, .inl (cf59, 2000, .inl g901_2)), (qf60, .inl (cf60, 2000, .inl g901_3)), (qf61, .inl (cf61, 2000, .inl g901_4))]) hP hD [0, 1, 2, 3, 4] [5, 6] rfl rfl (by decide) (by decide) hk1 hFc hP1 hD1
          clear hP hD
          obtain ⟨hP, hD⟩ := hPD
          replace hK := (hK.sub (tys' := [(cf65, .int), (cf63, .int)]) [4, 5] rfl).app hK1
          clear hPc hDc hKc hFc hP1 hK1 hD1 hz1 hk1 ht hvm
          generalize H1 = H at hP hS ⊢
          replace hP : va_P (dC, dI) vwCl [(qf65, .inl (cf65, 200, .inl f65)), (qf63, .inl (cf63, 40000, .inl g63_109)), (h0, .inr (13, z_1)), (qf58, .inl (cf58, 2000, .inl g901_1)), (qf59, .inl (cf59, 2000, .inl g901_2)), (qf60, .inl (cf60, 2000, .inl g901_3)), (qf61, .inl (cf61, 2000, .inl g901_4))] H := hP
          replace hD : va_D A [(qf65, .inl (cf65, 200, .inl f65)), (qf63, .inl (cf63, 40000, .inl g63_109)), (h0, .inr (13, z_1)), (qf58, .inl (cf58, 2000, .inl g901_1)), (qf59, .inl (cf59, 2000, .inl g901_2)), (qf60, .inl (cf60, 2000, .inl g901_3)), (qf61, .inl (cf61, 2000, .inl g901_4))] := hD
          replace hK : va_K (dC, dI) vwCl [(cf65, .int), (cf63, .int), (cf58, .int), (cf59, .int), (cf60, .int), (cf61, .int)] s := hK
          obtain ⟨hwa_1, hln_1, hre_1, hch_1_62⟩ := hw
          have hfk_1_58 : z_1[58]? = some (.ref qf58) := (hre_1 58 (by decide)).trans (hfh_109_58)
          have hfk_1_59 : z_1[59]? = some (.ref qf59) := (hre_1 59 (by decide)).trans (hfh_109_59)
          have hfk_1_60 : z_1[60]? = some (.ref qf60) := (hre_1 60 (by decide)).trans (hfh_109_60)
          have hfk_1_61 : z_1[61]? = some (.ref qf61) := (hre_1 61 (by decide)).trans (hfh_109_61)
          have hfk_1_63 : z_1[63]? = some (.ref qf63) := (hre_1 63 (by decide)).trans (hfh_109_63)
          have hfk_1_64 : z_1[64]? = some (.int x64_109) := (hre_1 64 (by decide)).trans (hfh_109_64)
          have hfk_1_65 : z_1[65]? = some (.ref qf65) := (hre_1 65 (by decide)).trans (hfh_109_65)
          have hfk_1_66 : z_1[66]? = some (.int x66_109) := (hre_1 66 (by decide)).trans (hfh_109_66)
          have hrq_1 : ∀ j : Nat, j ≠ 62 → j ≠ 64 → j ≠ 66 → z_1[j]? = zs[j]? := fun j g62 g64 g66 => (hre_1 j g62).trans (hrh_109 j g62 g64 g66)
          obtain rfl := hwa_1
          refine lv_istore_n (lv' := [(2, .int u1_0), (1, .int l1_109), (0, .ref h0)]) hx hb dX13_spelling_148 rfl hl (by decide) rfl (fun ls hl => ?_)
          refine lv_aload_n hx hb dX13_spelling_149 rfl (lv_at hl 2 rfl) ?_
          refine lv_dup hx hb dX13_spelling_150 rfl ?_
          refine va_get (D := (dC, dI)) (ci := 13) (v := .int x64_109) (C := RX13) (T := TX13) (N := 155) hx hb hts uV_h9_X13 hown hK hP 2 rfl rfl 64 (by decide) (hts (.fieldLink RX13 605 "ClassMillModel" "lettered" "I") mw_h9_405) (fun _ h9 => h9) hfk_1_64 dX13_spelling_151 ?_
          refine lv_iload_n hx hb dX13_spelling_154 rfl (lv_at hl 1 rfl) ?_
          refine lv_iadd hx hb dX13_spelling_155 ?_
          refine va_put (D := (dC, dI)) (ci := 13) (v := .int (x64_109 + l1_109)) (ty := .int) (C := RX13) (T := TX13) (N := 155) hx hb hts uV_h9_X13 tyX13 tyX13_ok nmX13 hown hK hP hD hS 2 rfl rfl 64 (by decide) (hts (.fieldLink RX13 605 "ClassMillModel" "lettered" "I") mw_h9_405) (fun _ h9 => h9) rfl (by decide +kernel) rfl rfl (by rw [hln_1]; decide) dX13_spelling_156 ?_
          clear hP hD hS
          intro H locs hP hD hS
          obtain ⟨fs_6, efs_6⟩ : ∃ zf : List Value, zf = z_1.set 64 (.int (x64_109 + l1_109)) := ⟨_, rfl⟩
          rw [← efs_6] at hP hD
          have hlfs_6 : fs_6.length = 155 := by rw [efs_6, List.length_set]; exact hln_1
          have hfs_6_58 : fs_6[58]? = some (.ref qf58) := by rw [efs_6, List.getElem?_set_ne (by decide)]; exact hfk_1_58
          have hfs_6_59 : fs_6[59]? = some (.ref qf59) := by rw [efs_6, List.getElem?_set_ne (by decide)]; exact hfk_1_59
          have hfs_6_60 : fs_6[60]? = some (.ref qf60) := by rw [efs_6, List.getElem?_set_ne (by decide)]; exact hfk_1_60
          have hfs_6_61 : fs_6[61]? = some (.ref qf61) := by rw [efs_6, List.getElem?_set_ne (by decide)]; exact hfk_1_61
          have hfs_6_62 : fs_6[62]? = some (.int u1_5) := by rw [efs_6, List.getElem?_set_ne (by decide)]; exact hch_1_62
          have hfs_6_63 : fs_6[63]? = some (.ref qf63) := by rw [efs_6, List.getElem?_set_ne (by decide)]; exact hfk_1_63
          have hfs_6_65 : fs_6[65]? = some (.ref qf65) := by rw [efs_6, List.getElem?_set_ne (by decide)]; exact hfk_1_65
          have hfs_6_66 : fs_6[66]? = some (.int x66_109) := by rw [efs_6, List.getElem?_set_ne (by decide)]; exact hfk_1_66
          have hfs_6_64 : fs_6[64]? = some (.int (x64_109 + l1_109)) := by rw [efs_6, List.getElem?_set_self (by rw [hln_1]; decide)]
          replace hP : va_P (dC, dI) vwCl [(qf65, .inl (cf65, 200, .inl f65)), (qf63, .inl (cf63, 40000, .inl g63_109)), (h0, .inr (13, fs_6)), (qf58, .inl (cf58, 2000, .inl g901_1)), (qf59, .inl (cf59, 2000, .inl g901_2)), (qf60, .inl (cf60, 2000, .inl g901_3)), (qf61, .inl (cf61, 2000, .inl g901_4))] H := hP
          replace hD : va_D A [(qf65, .inl (cf65, 200, .inl f65)), (qf63, .inl (cf63, 40000, .inl g63_109)), (h0, .inr (13, fs_6)), (qf58, .inl (cf58, 2000, .inl g901_1)), (qf59, .inl (cf59, 2000, .inl g901_2)), (qf60, .inl (cf60, 2000, .inl g901_3)), (qf61, .inl (cf61, 2000, .inl g901_4))] := hD
          have hrs_7 : ∀ j : Nat, j ≠ 62 → j ≠ 64 → j ≠ 66 → fs_6[j]? = zs[j]? := fun j g62 g64 g66 => ((congrArg (fun z : List Value => z[j]?) efs_6).trans (List.getElem?_set_ne (Ne.symm g64))).trans (hrq_1 j g62 g64 g66)
          refine lv_iload_n hx hb dX13_spelling_159 rfl (lv_at hl 0 rfl) ?_
          have hr0 := Option.some.inj hsp
          clear hsp
          obtain ⟨hq0, hr1⟩ := Prod.mk.inj hr0
          clear hr0
          obtain ⟨hq1, hr2⟩ := Prod.mk.inj hr1
          clear hr1
          obtain ⟨hq2, hr3⟩ := Prod.mk.inj hr2
          clear hr2
          obtain ⟨hq3, hr4⟩ := Prod.mk.inj hr3
          clear hr3
          obtain ⟨hq4, hr5⟩ := Prod.mk.inj hr4
          clear hr4
          obtain ⟨hq5, hr6⟩ := Prod.mk.inj hr5
          clear hr5
          obtain ⟨hq6, hr7⟩ := Prod.mk.inj hr6
          clear hr6
          obtain ⟨hq7, hr8⟩ := Prod.mk.inj hr7
          clear hr7
          subst hq0
          subst hq1
          subst hq2
          subst hq3
          subst hq4
          subst hq5
          subst hq6
          subst hq7
          subst hr8
          have hP9 := hP.sub (ws' := [(h0, .inr (13, fs_6)), (qf58, .inl (cf58, 2000, .inl g901_1)), (qf59, .inl (cf59, 2000, .inl g901_2)), (qf60, .inl (cf60, 2000, .inl g901_3)), (qf61, .inl (cf61, 2000, .inl g901_4)), (qf65, .inl (cf65, 200, .inl f65)), (qf63, .inl (cf63, 40000, .inl g63_109))]) [2, 3, 4, 5, 6, 0, 1] rfl
          have hD9 := hD.sub (ws' := [(h0, .inr (13, fs_6)), (qf58, .inl (cf58, 2000, .inl g901_1)), (qf59, .inl (cf59, 2000, .inl g901_2)), (qf60, .inl (cf60, 2000, .inl g901_3)), (qf61, .inl (cf61, 2000, .inl g901_4)), (qf65, .inl (cf65, 200, .inl f65)), (qf63, .inl (cf63, 40000, .inl g63_109))]) [2, 3, 4, 5, 6, 0, 1] (by decide) rfl
          have hK9 := hK.sub (tys' := [(cf58, .int), (cf59, .int), (cf60, .int), (cf61, .int), (cf65, .int), (cf63, .int)]) [2, 3, 4, 5, 0, 1] rfl
          exact W.iret hx hb hr (fun t ht hW => ⟨⟨(u1_0), (fs_6), rfl, ⟨rfl, hlfs_6, hrs_7, hfs_6_62, hfs_6_64, hfs_6_66⟩, by rw [ht]; exact hP9, va_K.moved hW.alike hK9, hD9⟩, hS.F ht⟩) hS.2.2 dX13_spelling_160
        · rw [if_neg c_4] at hsp
          refine lv_aload_n hx hb dX13_spelling_114 rfl (lv_at hl 2 rfl) ?_
          refine va_get (D := (dC, dI)) (ci := 13) (v := .ref qf63) (C := RX13) (T := TX13) (N := 155) hx hb hts uV_h9_X13 hown hK hP 0 rfl rfl 63 (by decide) (hts (.fieldLink RX13 141 "ClassMillModel" "letters" "[I") mw_h9_211) (fun _ h9 => h9) hfh_109_63 dX13_spelling_115 ?_
          refine lv_aload_n hx hb dX13_spelling_118 rfl (lv_at hl 2 rfl) ?_
          refine va_get (D := (dC, dI)) (ci := 13) (v := .int x64_109) (C := RX13) (T := TX13) (N := 155) hx hb hts uV_h9_X13 hown hK hP 0 rfl rfl 64 (by decide) (hts (.fieldLink RX13 605 "ClassMillModel" "lettered" "I") mw_h9_405) (fun _ h9 => h9) hfh_109_64 dX13_spelling_119 ?_
          refine lv_iload_n hx hb dX13_spelling_122 rfl (lv_at hl 0 rfl) ?_
          refine lv_iadd hx hb dX13_spelling_123 ?_
          refine lv_aload_n hx hb dX13_spelling_124 rfl (lv_at hl 2 rfl) ?_
          refine va_get (D := (dC, dI)) (ci := 13) (v := .ref qf65) (C := RX13) (T := TX13) (N := 155) hx hb hts uV_h9_X13 hown hK hP 0 rfl rfl 65 (by decide) (hts (.fieldLink RX13 144 "ClassMillModel" "spelled" "[I") mw_h9_404) (fun _ h9 => h9) hfh_109_65 dX13_spelling_125 ?_
          refine lv_iload_n hx hb dX13_spelling_128 rfl (lv_at hl 0 rfl) ?_
          obtain ⟨hi_8, hsp⟩ := ox_in hsp
          refine va_iald hx hb hK hP 5 4 rfl rfl (i := l2_109) hi_8 dX13_spelling_129 ?_
          obtain ⟨hi_9, hsp⟩ := ox_in hsp
          refine va_iast hx hb hK hP hD hS 6 5 rfl rfl (i := (x64_109 + l2_109)) (x := (f65 (l2_109 : Int32).toNatClampNeg)) hi_9 dX13_spelling_130 ?_
          clear hP hD hS
          intro H locs hP hD hS
          replace hP : va_P (dC, dI) vwCl [(h0, .inr (13, z109)), (qf58, .inl (cf58, 2000, .inl g58_109)), (qf59, .inl (cf59, 2000, .inl g59_109)), (qf60, .inl (cf60, 2000, .inl g60_109)), (qf61, .inl (cf61, 2000, .inl g61_109)), (qf65, .inl (cf65, 200, .inl f65)), (qf63, .inl (cf63, 40000, .inl (upd g63_109 ((x64_109 + l2_109) : Int32).toNatClampNeg (f65 (l2_109 : Int32).toNatClampNeg))))] H := hP
          replace hD : va_D A [(h0, .inr (13, z109)), (qf58, .inl (cf58, 2000, .inl g58_109)), (qf59, .inl (cf59, 2000, .inl g59_109)), (qf60, .inl (cf60, 2000, .inl g60_109)), (qf61, .inl (cf61, 2000, .inl g61_109)), (qf65, .inl (cf65, 200, .inl f65)), (qf63, .inl (cf63, 40000, .inl (upd g63_109 ((x64_109 + l2_109) : Int32).toNatClampNeg (f65 (l2_109 : Int32).toNatClampNeg))))] := hD
          refine lv_iinc (v := (l2_109 + 1)) (lv' := [(2, .int (l2_109 + 1)), (1, .int l1_109), (0, .ref h0)]) hx hb dX13_spelling_131 hl (k := 0) rfl rfl (by decide) rfl (fun ls hl => ?_)
          refine lv_goto (tgt := 109) hx hb dX13_spelling_134 (by decide) ?_
          exact ih_109 H locs ls z109 l1_109 (l2_109 + 1) g58_109 g59_109 g60_109 g61_109 (upd g63_109 ((x64_109 + l2_109) : Int32).toNatClampNeg (f65 (l2_109 : Int32).toNatClampNeg)) x62_109 x64_109 x66_109 (hfh_109_58) (hfh_109_59) (hfh_109_60) (hfh_109_61) (hfh_109_62) (hfh_109_63) (hfh_109_64) (hfh_109_65) (hfh_109_66) hlh_109 hrh_109 (lv_sub hl [0, 1, 2] rfl) hS (hD.sub (ws' := [(h0, .inr (13, z109)), (qf58, .inl (cf58, 2000, .inl g58_109)), (qf59, .inl (cf59, 2000, .inl g59_109)), (qf60, .inl (cf60, 2000, .inl g60_109)), (qf61, .inl (cf61, 2000, .inl g61_109)), (qf65, .inl (cf65, 200, .inl f65)), (qf63, .inl (cf63, 40000, .inl (upd g63_109 ((x64_109 + l2_109) : Int32).toNatClampNeg (f65 (l2_109 : Int32).toNatClampNeg))))]) [0, 1, 2, 3, 4, 5, 6] (by decide) rfl) (hP.sub (ws' := [(h0, .inr (13, z109)), (qf58, .inl (cf58, 2000, .inl g58_109)), (qf59, .inl (cf59, 2000, .inl g59_109)), (qf60, .inl (cf60, 2000, .inl g60_109)), (qf61, .inl (cf61, 2000, .inl g61_109)), (qf65, .inl (cf65, 200, .inl f65)), (qf63, .inl (cf63, 40000, .inl (upd g63_109 ((x64_109 + l2_109) : Int32).toNatClampNeg (f65 (l2_109 : Int32).toNatClampNeg))))]) [0, 1, 2, 3, 4, 5, 6] rfl) hsp
    · rw [if_neg c_3] at hsp
      refine lv_aload_n hx hb dX13_spelling_20 rfl (lv_at hl 2 rfl) ?_
      refine va_get (D := (dC, dI)) (ci := 13) (v := .ref qf58) (C := RX13) (T := TX13) (N := 155) hx hb hts uV_h9_X13 hown hK hP 0 rfl rfl 58 (by decide) (hts (.fieldLink RX13 128 "ClassMillModel" "constantSort" "[I") mw_h9_163) (fun _ h9 => h9) hfh_12_58 dX13_spelling_21 ?_
      refine lv_iload_n hx hb dX13_spelling_24 rfl (lv_at hl 0 rfl) ?_
      obtain ⟨hi_10, hsp⟩ := ox_in hsp
      refine va_iald hx hb hK hP 1 0 rfl rfl (i := l2_12) hi_10 dX13_spelling_25 ?_
      refine lv_iconst (v := 1) hx hb dX13_spelling_26 (by decide) ?_
      refine lv_icmp_ne (tgt := 44) hx hb dX13_spelling_27 (by decide) (fun c_11 => ?_) (fun c_11 => ?_)
      · rw [if_neg c_11] at hsp
        exact hj_44 (H, locs, ls, z12, l1_12, l2_12, g58_12, g59_12, g60_12, g61_12, g63_12, x62_12, x64_12, x66_12) ⟨lv_sub hl [2, 1, 0] rfl, hS, hD.sub (ws' := [(h0, .inr (13, z12)), (qf58, .inl (cf58, 2000, .inl g58_12)), (qf59, .inl (cf59, 2000, .inl g59_12)), (qf60, .inl (cf60, 2000, .inl g60_12)), (qf61, .inl (cf61, 2000, .inl g61_12)), (qf65, .inl (cf65, 200, .inl f65)), (qf63, .inl (cf63, 40000, .inl g63_12))]) [0, 1, 2, 3, 4, 5, 6] (by decide) rfl, hP.sub (ws' := [(h0, .inr (13, z12)), (qf58, .inl (cf58, 2000, .inl g58_12)), (qf59, .inl (cf59, 2000, .inl g59_12)), (qf60, .inl (cf60, 2000, .inl g60_12)), (qf61, .inl (cf61, 2000, .inl g61_12)), (qf65, .inl (cf65, 200, .inl f65)), (qf63, .inl (cf63, 40000, .inl g63_12))]) [0, 1, 2, 3, 4, 5, 6] rfl, hfh_12_58, hfh_12_59, hfh_12_60, hfh_12_61, hfh_12_62, hfh_12_63, hfh_12_64, hfh_12_65, hfh_12_66, hlh_12, hrh_12, hsp⟩
      · rw [if_pos c_11] at hsp
        refine lv_aload_n hx hb dX13_spelling_30 rfl (lv_at hl 2 rfl) ?_
        refine va_get (D := (dC, dI)) (ci := 13) (v := .ref qf60) (C := RX13) (T := TX13) (N := 155) hx hb hts uV_h9_X13 hown hK hP 0 rfl rfl 60 (by decide) (hts (.fieldLink RX13 134 "ClassMillModel" "constantTwo" "[I") mw_h9_165) (fun _ h9 => h9) hfh_12_60 dX13_spelling_31 ?_
        refine lv_iload_n hx hb dX13_spelling_34 rfl (lv_at hl 0 rfl) ?_
        obtain ⟨hi_12, hsp⟩ := ox_in hsp
        refine va_iald hx hb hK hP 3 2 rfl rfl (i := l2_12) hi_12 dX13_spelling_35 ?_
        refine lv_iload_n hx hb dX13_spelling_36 rfl (lv_at hl 1 rfl) ?_
        refine lv_icmp_ne (tgt := 44) hx hb dX13_spelling_37 (by decide) (fun c_13 => ?_) (fun c_13 => ?_)
        · rw [if_neg c_13] at hsp
          exact hj_44 (H, locs, ls, z12, l1_12, l2_12, g58_12, g59_12, g60_12, g61_12, g63_12, x62_12, x64_12, x66_12) ⟨lv_sub hl [2, 1, 0] rfl, hS, hD.sub (ws' := [(h0, .inr (13, z12)), (qf58, .inl (cf58, 2000, .inl g58_12)), (qf59, .inl (cf59, 2000, .inl g59_12)), (qf60, .inl (cf60, 2000, .inl g60_12)), (qf61, .inl (cf61, 2000, .inl g61_12)), (qf65, .inl (cf65, 200, .inl f65)), (qf63, .inl (cf63, 40000, .inl g63_12))]) [0, 1, 2, 3, 4, 5, 6] (by decide) rfl, hP.sub (ws' := [(h0, .inr (13, z12)), (qf58, .inl (cf58, 2000, .inl g58_12)), (qf59, .inl (cf59, 2000, .inl g59_12)), (qf60, .inl (cf60, 2000, .inl g60_12)), (qf61, .inl (cf61, 2000, .inl g61_12)), (qf65, .inl (cf65, 200, .inl f65)), (qf63, .inl (cf63, 40000, .inl g63_12))]) [0, 1, 2, 3, 4, 5, 6] rfl, hfh_12_58, hfh_12_59, hfh_12_60, hfh_12_61, hfh_12_62, hfh_12_63, hfh_12_64, hfh_12_65, hfh_12_66, hlh_12, hrh_12, hsp⟩
        · rw [if_pos c_13] at hsp
          refine lv_iconst (v := 1) hx hb dX13_spelling_40 (by decide) ?_
          refine lv_goto (tgt := 45) hx hb dX13_spelling_41 (by decide) ?_
          exact hj_45 (H, locs, ls, z12, l1_12, l2_12, 1, g58_12, g59_12, g60_12, g61_12, g63_12, x62_12, x64_12, x66_12) ⟨lv_sub hl [2, 1, 0] rfl, hS, hD.sub (ws' := [(h0, .inr (13, z12)), (qf58, .inl (cf58, 2000, .inl g58_12)), (qf59, .inl (cf59, 2000, .inl g59_12)), (qf60, .inl (cf60, 2000, .inl g60_12)), (qf61, .inl (cf61, 2000, .inl g61_12)), (qf65, .inl (cf65, 200, .inl f65)), (qf63, .inl (cf63, 40000, .inl g63_12))]) [0, 1, 2, 3, 4, 5, 6] (by decide) rfl, hP.sub (ws' := [(h0, .inr (13, z12)), (qf58, .inl (cf58, 2000, .inl g58_12)), (qf59, .inl (cf59, 2000, .inl g59_12)), (qf60, .inl (cf60, 2000, .inl g60_12)), (qf61, .inl (cf61, 2000, .inl g61_12)), (qf65, .inl (cf65, 200, .inl f65)), (qf63, .inl (cf63, 40000, .inl g63_12))]) [0, 1, 2, 3, 4, 5, 6] rfl, hfh_12_58, hfh_12_59, hfh_12_60, hfh_12_61, hfh_12_62, hfh_12_63, hfh_12_64, hfh_12_65, hfh_12_66, hlh_12, hrh_12, hsp⟩
def sp_vm_classConstant (nf : Nat) (a1 : Int32) (v62 : Int32) (v64 : Int32) (v66 : Int32) (f65 : Nat → Int32) (f25 : Nat → Int32) (f6 : Nat → Int32) (f5 : Nat → Int32) (f2 : Nat → Int32) (f58 : Nat → Int32) (f59 : Nat → Int32) (f60 : Nat → Int32) (f61 : Nat → Int32) (f63 : Nat → Int32) (nS477 : Nat) (fS477 : Nat → Int32) : Option (Int32 × (Nat → Int32) × (Nat → Int32) × (Nat → Int32) × (Nat → Int32) × (Nat → Int32) × (Nat → Int32) × Int32 × Int32 × Int32) := (if a1 = 4 then ((sp_vm_spellKind nf a1 v66 f65 f25 f6 f5 f2 nS477 fS477).bind (fun p8 => ((sp_vm_spelling nf v62 v64 p8.2 f58 f59 f60 f61 p8.1 f63).bind (fun p9 => ((sp_vm_constant nf 3 p9.1 0 0 p9.2.2.2.2.2.2.1 p9.2.1 p9.2.2.1 p9.2.2.2.1 p9.2.2.2.2.1).bind (fun p10 => (some (p10.1, p10.2.1, p10.2.2.1, p10.2.2.2.1, p10.2.2.2.2.1, p9.2.2.2.2.2.1, p8.1, p10.2.2.2.2.2, p9.2.2.2.2.2.2.2.1, p9.2.2.2.2.2.2.2.2)))))))) else ((sp_tm_isArray nf a1).bind (fun p1 => (if p1 = 0 then ((sp_vm_spellClass nf ((a1 - 8) / 2) v66 f65 f25 f6 f5 f2 nS477 fS477).bind (fun p2 => ((sp_vm_spelling nf v62 v64 p2.2 f58 f59 f60 f61 p2.1 f63).bind (fun p3 => ((sp_vm_constant nf 3 p3.1 0 0 p3.2.2.2.2.2.2.1 p3.2.1 p3.2.2.1 p3.2.2.2.1 p3.2.2.2.2.1).bind (fun p4 => (some (p4.1, p4.2.1, p4.2.2.1, p4.2.2.2.1, p4.2.2.2.2.1, p3.2.2.2.2.2.1, p2.1, p4.2.2.2.2.2, p3.2.2.2.2.2.2.2.1, p3.2.2.2.2.2.2.2.2)))))))) else ((sp_vm_spellKind nf a1 v66 f65 f25 f6 f5 f2 nS477 fS477).bind (fun p5 => ((sp_vm_spelling nf v62 v64 p5.2 f58 f59 f60 f61 p5.1 f63).bind (fun p6 => ((sp_vm_constant nf 3 p6.1 0 0 p6.2.2.2.2.2.2.1 p6.2.1 p6.2.2.1 p6.2.2.2.1 p6.2.2.2.2.1).bind (fun p7 => (some (p7.1, p7.2.1, p7.2.2.1, p7.2.2.2.1, p7.2.2.2.2.1, p6.2.2.2.2.2.1, p5.1, p7.2.2.2.2.2, p6.2.2.2.2.2.2.2.1, p6.2.2.2.2.2.2.2.2))))))))))))
set_option maxHeartbeats 4000000 in
set_option maxRecDepth 100000 in
/-- ClassMillModel.classConstant -/
theorem vm_classConstant (l : Launch) (dC : Nat → ClassId) (dI : Nat → Nat → Nat) (sz : Nat) (h0 : Nat) (zs : (List Value)) (a1 : Int32) (qf2 : Nat) (qf5 : Nat) (qf6 : Nat) (qf25 : Nat) (qf58 : Nat) (qf59 : Nat) (qf60 : Nat) (qf61 : Nat) (v62 : Int32) (qf63 : Nat) (v64 : Int32) (qf65 : Nat) (v66 : Int32) (cf65 : ClassId) (f65 : (Nat → Int32)) (cf25 : ClassId) (f25 : (Nat → Int32)) (cf6 : ClassId) (f6 : (Nat → Int32)) (cf5 : ClassId) (f5 : (Nat → Int32)) (cf2 : ClassId) (f2 : (Nat → Int32)) (cf58 : ClassId) (f58 : (Nat → Int32)) (cf59 : ClassId) (f59 : (Nat → Int32)) (cf60 : ClassId) (f60 : (Nat → Int32)) (cf61 : ClassId) (f61 : (Nat → Int32)) (cf63 : ClassId) (f63 : (Nat → Int32)) (nS477 : Nat) (fS477 : (Nat → Int32)) (hS477 : Nat) (qS477 : Nat) (tS477 : String) (nf : Nat) (r0 : Int32) (o58 : (Nat → Int32)) (o59 : (Nat → Int32)) (o60 : (Nat → Int32)) (o61 : (Nat → Int32)) (o63 : (Nat → Int32)) (o65 : (Nat → Int32)) (w62 : Int32) (w64 : Int32) (w66 : Int32) (hlen : zs.length = 155) (hf2 : zs[2]? = some (.ref qf2)) (hf5 : zs[5]? = some (.ref qf5)) (hf6 : zs[6]? = some (.ref qf6)) (hf25 : zs[25]? = some (.ref qf25)) (hf58 : zs[58]? = some (.ref qf58)) (hf59 : zs[59]? = some (.ref qf59)) (hf60 : zs[60]? = some (.ref qf60)) (hf61 : zs[61]? = some (.ref qf61)) (hf62 : zs[62]? = some (.int v62)) (hf63 : zs[63]? = some (.ref qf63)) (hf64 : zs[64]? = some (.int v64)) (hf65 : zs[65]? = some (.ref qf65)) (hf66 : zs[66]? = some (.int v66)) (hsp : sp_vm_classConstant nf a1 v62 v64 v66 f65 f25 f6 f5 f2 f58 f59 f60 f61 f63 nS477 fS477 = some (r0, o58, o59, o60, o61, o63, o65, w62, w64, w66)) : Met l yX13_classConstant (.code yX13_classConstant cX13_classConstant 2 (some .int) :: VS_h9) ({ frames := 6, cells := 0, slots := 0, locals := 129 }) (va_Pc [.ref h0, .int a1] (fun U => U.heap.size = sz ∧ va_P (dC, dI) vwCl [(h0, .inr (13, zs)), (qf65, .inl (cf65, 200, .inl f65)), (qf25, .inl (cf25, 400, .inl f25)), (qf6, .inl (cf6, 3002, .inl f6)), (qf5, .inl (cf5, 3002, .inl f5)), (qf2, .inl (cf2, 3000, .inl f2)), (qf58, .inl (cf58, 2000, .inl f58)), (qf59, .inl (cf59, 2000, .inl f59)), (qf60, .inl (cf60, 2000, .inl f60)), (qf61, .inl (cf61, 2000, .inl f61)), (qf63, .inl (cf63, 40000, .inl f63))] U.heap ∧ va_K (dC, dI) vwCl [(cf65, .int), (cf25, .int), (cf6, .int), (cf5, .int), (cf2, .int), (cf58, .int), (cf59, .int), (cf60, .int), (cf61, .int), (cf63, .int)] U ∧ va_D (fun _ => True) [(h0, .inr (13, zs)), (qf65, .inl (cf65, 200, .inl f65)), (qf25, .inl (cf25, 400, .inl f25)), (qf6, .inl (cf6, 3002, .inl f6)), (qf5, .inl (cf5, 3002, .inl f5)), (qf2, .inl (cf2, 3000, .inl f2)), (qf58, .inl (cf58, 2000, .inl f58)), (qf59, .inl (cf59, 2000, .inl f59)), (qf60, .inl (cf60, 2000, .inl f60)), (qf61, .inl (cf61, 2000, .inl f61)), (qf63, .inl (cf63, 40000, .inl f63))] ∧ pz_W nS477 fS477 hS477 qS477 (va_A [(h0, .inr (13, zs)), (qf65, .inl (cf65, 200, .inl f65)), (qf25, .inl (cf25, 400, .inl f25)), (qf6, .inl (cf6, 3002, .inl f6)), (qf5, .inl (cf5, 3002, .inl f5)), (qf2, .inl (cf2, 3000, .inl f2)), (qf58, .inl (cf58, 2000, .inl f58)), (qf59, .inl (cf59, 2000, .inl f59)), (qf60, .inl (cf60, 2000, .inl f60)), (qf61, .inl (cf61, 2000, .inl f61)), (qf63, .inl (cf63, 40000, .inl f63))] sz) U U.heap ∧ vk_R RX13 477 tS477 hS477 U)) (va_Qi (fun (r : Int32) (u : (List Value)) => match u with | (zo1) => r0 = r ∧ zo1.length = 155 ∧ (∀ j : Nat, j ≠ 62 → j ≠ 64 → j ≠ 66 → zo1[j]? = zs[j]?) ∧ zo1[62]? = some (.int w62) ∧ zo1[64]? = some (.int w64) ∧ zo1[66]? = some (.int w66)) (fun (u : (List Value)) (t : State) => match u with | (zo1) => va_P (dC, dI) vwCl [(h0, .inr (13, zo1)), (qf65, .inl (cf65, 200, .inl o65)), (qf25, .inl (cf25, 400, .inl f25)), (qf6, .inl (cf6, 3002, .inl f6)), (qf5, .inl (cf5, 3002, .inl f5)), (qf2, .inl (cf2, 3000, .inl f2)), (qf58, .inl (cf58, 2000, .inl o58)), (qf59, .inl (cf59, 2000, .inl o59)), (qf60, .inl (cf60, 2000, .inl o60)), (qf61, .inl (cf61, 2000, .inl o61)), (qf63, .inl (cf63, 40000, .inl o63))] t.heap ∧ va_K (dC, dI) vwCl [(cf65, .int), (cf25, .int), (cf6, .int), (cf5, .int), (cf2, .int), (cf58, .int), (cf59, .int), (cf60, .int), (cf61, .int), (cf63, .int)] t ∧ va_D (va_A [(h0, .inr (13, zs)), (qf65, .inl (cf65, 200, .inl f65)), (qf25, .inl (cf25, 400, .inl f25)), (qf6, .inl (cf6, 3002, .inl f6)), (qf5, .inl (cf5, 3002, .inl f5)), (qf2, .inl (cf2, 3000, .inl f2)), (qf58, .inl (cf58, 2000, .inl f58)), (qf59, .inl (cf59, 2000, .inl f59)), (qf60, .inl (cf60, 2000, .inl f60)), (qf61, .inl (cf61, 2000, .inl f61)), (qf63, .inl (cf63, 40000, .inl f63))] sz) [(h0, .inr (13, zo1)), (qf65, .inl (cf65, 200, .inl o65)), (qf25, .inl (cf25, 400, .inl f25)), (qf6, .inl (cf6, 3002, .inl f6)), (qf5, .inl (cf5, 3002, .inl f5)), (qf2, .inl (cf2, 3000, .inl f2)), (qf58, .inl (cf58, 2000, .inl o58)), (qf59, .inl (cf59, 2000, .inl o59)), (qf60, .inl (cf60, 2000, .inl o60)), (qf61, .inl (cf61, 2000, .inl o61)), (qf63, .inl (cf63, 40000, .inl o63))]) (va_A [(h0, .inr (13, zs)), (qf65, .inl (cf65, 200, .inl f65)), (qf25, .inl (cf25, 400, .inl f25)), (qf6, .inl (cf6, 3002, .inl f6)), (qf5, .inl (cf5, 3002, .inl f5)), (qf2, .inl (cf2, 3000, .inl f2)), (qf58, .inl (cf58, 2000, .inl f58)), (qf59, .inl (cf59, 2000, .inl f59)), (qf60, .inl (cf60, 2000, .inl f60)), (qf61, .inl (cf61, 2000, .inl f61)), (qf63, .inl (cf63, 40000, .inl f63))] sz)) 0 0 (va_A [(h0, .inr (13, zs)), (qf65, .inl (cf65, 200, .inl f65)), (qf25, .inl (cf25, 400, .inl f25)), (qf6, .inl (cf6, 3002, .inl f6)), (qf5, .inl (cf5, 3002, .inl f5)), (qf2, .inl (cf2, 3000, .inl f2)), (qf58, .inl (cf58, 2000, .inl f58)), (qf59, .inl (cf59, 2000, .inl f59)), (qf60, .inl (cf60, 2000, .inl f60)), (qf61, .inl (cf61, 2000, .inl f61)), (qf63, .inl (cf63, 40000, .inl f63))] sz) := by
  refine Met.ofW (cc := cX13_classConstant) (maxL := 2) (ret := (some .int)) (by decide) rfl ?_
  intro p e s m args below meth c s₁ B hml hv
  obtain ⟨rfl, hsz, hP, hK, hD0, hZWS477, hZRS477⟩ := hv
  have hx := B.exec
  have hb := B.bytes
  have hr := B.returns
  have hts := atoms_spec (ws := (.code yX13_classConstant cX13_classConstant 2 (some .int) :: VS_h9)) B.pre
  replace hts := fun w (h : w ∈ VS_h9) => hts w (List.mem_cons_of_mem _ h)
  have hown : s.vm.findClass RX13 = some m.cls := findClass_of_methodNamed B.named
  have hlocks := B.notSynchronized
  subst hsz
  have hD := hD0.self (sz := s.heap.size)
  generalize hAe : va_A [(h0, .inr (13, zs)), (qf65, .inl (cf65, 200, .inl f65)), (qf25, .inl (cf25, 400, .inl f25)), (qf6, .inl (cf6, 3002, .inl f6)), (qf5, .inl (cf5, 3002, .inl f5)), (qf2, .inl (cf2, 3000, .inl f2)), (qf58, .inl (cf58, 2000, .inl f58)), (qf59, .inl (cf59, 2000, .inl f59)), (qf60, .inl (cf60, 2000, .inl f60)), (qf61, .inl (cf61, 2000, .inl f61)), (qf63, .inl (cf63, 40000, .inl f63))] s.heap.size = A at hD hZWS477 ⊢
  have hA : ∀ q : Nat, s.heap.size ≤ q → A q := fun q h => by rw [← hAe]; exact Or.inr h
  have hP : va_P (dC, dI) vwCl [(h0, .inr (13, zs)), (qf65, .inl (cf65, 200, .inl f65)), (qf25, .inl (cf25, 400, .inl f25)), (qf6, .inl (cf6, 3002, .inl f6)), (qf5, .inl (cf5, 3002, .inl f5)), (qf2, .inl (cf2, 3000, .inl f2)), (qf58, .inl (cf58, 2000, .inl f58)), (qf59, .inl (cf59, 2000, .inl f59)), (qf60, .inl (cf60, 2000, .inl f60)), (qf61, .inl (cf61, 2000, .inl f61)), (qf63, .inl (cf63, 40000, .inl f63))] s.heap := hP
  have hl := lv_entry ([.ref h0, .int a1]) (n := 2) (Nat.le_of_ble_eq_true rfl)
  rw [lg_entry_eq]
  generalize (lg_sl ([.ref h0, .int a1]) ++ List.replicate (2 - (lg_sl ([.ref h0, .int a1])).length) Slot.unset).toArray = ls at hl ⊢
  have hl : lv_has ls 2 [(0, .ref h0), (1, .int a1)] := hl
  obtain ⟨H, hH⟩ : ∃ H : Heap, s.heap = H := ⟨_, rfl⟩
  rw [hH] at hP ⊢
  have hS : va_S A s.heap H [] := by rw [← hH]; exact va_S.rf
  obtain ⟨locs, hlo⟩ : ∃ locs : List Loc, locs = [] := ⟨_, rfl⟩
  rw [← hlo] at hS ⊢
  have hrs0 : ∀ j : Nat, j ≠ 62 → j ≠ 64 → j ≠ 66 → zs[j]? = zs[j]? := fun _ _ _ _  => rfl
  unfold sp_vm_classConstant at hsp
  refine lv_iload_n hx hb dX13_classConstant_0 rfl (lv_at hl 1 rfl) ?_
  refine lv_iconst (v := 4) hx hb dX13_classConstant_1 (by decide) ?_
  refine lv_icmp_ne (tgt := 13) hx hb dX13_classConstant_2 (by decide) (fun c_1 => ?_) (fun c_1 => ?_)
  · rw [if_neg c_1] at hsp
    refine lv_iload_n hx hb dX13_classConstant_13 rfl (lv_at hl 1 rfl) ?_
    obtain ⟨u1_0, hu_1, hsp⟩ := ox_bind hsp
    try dsimp only at hsp
    have hPc := hP.sub (ws' := []) [] rfl
    have hDc := hD.sub (ws' := []) [] (by decide) rfl
    have hKc := hK.sub (tys' := []) [] rfl
    have hFc := va_free (wc := []) hD hS hA [] rfl
    refine va_calli (va_runS (As := [.int a1]) (rest := []) ⟨hx, hb, hml, hown, hts⟩ (tm_isArray l dC dI H.size a1 nf u1_0 hu_1) (va_cwS 1 hts gv_h9_26 rfl rfl rfl (by decide +kernel) ⟨Nat.le_of_ble_eq_true rfl, Nat.le_of_ble_eq_true rfl⟩) ⟨fun a U g mk q => by obtain ⟨q0, q1, qP, qK, qD⟩ := q; exact ⟨q0, q1, qP, va_K.moved (u := U) (U := U.calling g mk a) (Vm.Alike.refl U.vm) qK, qD⟩, fun U hU hW => ⟨rfl, by rw [hU], by rw [hU]; exact hPc, va_K.moved hW.alike hKc, hDc.weaken (fun _ _ _ _ => trivial)⟩⟩ rfl rfl hl.1 rfl (lv_room (Nat.le_of_ble_eq_true rfl)) dX13_classConstant_14 ⟨Nat.le_of_ble_eq_true rfl, Nat.le_of_ble_eq_true rfl⟩) hS (fun q _ h => hFc q h) hFc ?_
    clear hS
    intro r_2 u t H1 locs ht hvm hw hB hz1 hk1 hS
    obtain ⟨⟩ := u
    obtain ⟨hP1, hK1, hD1⟩ := hB
    rw [ht] at hP1
    have hK1 := va_K.moved hvm.symm hK1
    try dsimp only at hw
    have hPD := va_join (wr := [(h0, .inr (13, zs)), (qf65, .inl (cf65, 200, .inl f65)), (qf25, .inl (cf25, 400, .inl f25)), (qf6, .inl (cf6, 3002, .inl f6)), (qf5, .inl (cf5, 3002, .inl f5)), (qf2, .inl (cf2, 3000, .inl f2)), (qf58, .inl (cf58, 2000, .inl f58)), (qf59, .inl (cf59, 2000, .inl f59)), (qf60, .inl (cf60, 2000, .inl f60)), (qf61, .inl (cf61, 2000, .inl f61)), (qf63, .inl (cf63, 40000, .inl f63))]) (w1 := []) hP hD [] [0, 1, 2, 3, 4, 5, 6, 7, 8, 9, 10] rfl rfl (by decide) (by decide) hk1 hFc hP1 hD1
    clear hP hD
    obtain ⟨hP, hD⟩ := hPD
    replace hK := (hK.sub (tys' := [(cf65, .int), (cf25, .int), (cf6, .int), (cf5, .int), (cf2, .int), (cf58, .int), (cf59, .int), (cf60, .int), (cf61, .int), (cf63, .int)]) [0, 1, 2, 3, 4, 5, 6, 7, 8, 9] rfl).app hK1
    clear hPc hDc hKc hFc hP1 hK1 hD1 hz1 hk1 ht hvm
    generalize H1 = H at hP hS ⊢
    replace hP : va_P (dC, dI) vwCl [(h0, .inr (13, zs)), (qf65, .inl (cf65, 200, .inl f65)), (qf25, .inl (cf25, 400, .inl f25)), (qf6, .inl (cf6, 3002, .inl f6)), (qf5, .inl (cf5, 3002, .inl f5)), (qf2, .inl (cf2, 3000, .inl f2)), (qf58, .inl (cf58, 2000, .inl f58)), (qf59, .inl (cf59, 2000, .inl f59)), (qf60, .inl (cf60, 2000, .inl f60)), (qf61, .inl (cf61, 2000, .inl f61)), (qf63, .inl (cf63, 40000, .inl f63))] H := hP
    replace hD : va_D A [(h0, .inr (13, zs)), (qf65, .inl (cf65, 200, .inl f65)), (qf25, .inl (cf25, 400, .inl f25)), (qf6, .inl (cf6, 3002, .inl f6)), (qf5, .inl (cf5, 3002, .inl f5)), (qf2, .inl (cf2, 3000, .inl f2)), (qf58, .inl (cf58, 2000, .inl f58)), (qf59, .inl (cf59, 2000, .inl f59)), (qf60, .inl (cf60, 2000, .inl f60)), (qf61, .inl (cf61, 2000, .inl f61)), (qf63, .inl (cf63, 40000, .inl f63))] := hD
    replace hK : va_K (dC, dI) vwCl [(cf65, .int), (cf25, .int), (cf6, .int), (cf5, .int), (cf2, .int), (cf58, .int), (cf59, .int), (cf60, .int), (cf61, .int), (cf63, .int)] s := hK
    obtain ⟨rfl, hz_1⟩ := hw
    rcases hz_1 with rfl | rfl
    · rw [if_pos rfl] at hsp
      refine lv_if_eq (tgt := 28) hx hb dX13_classConstant_17 (by decide) (fun c_3 => ?_) (fun c_3 => (show False by revert c_3; decide).elim)
      refine lv_aload_n hx hb dX13_classConstant_28 rfl (lv_at hl 0 rfl) ?_
      refine lv_iload_n hx hb dX13_classConstant_29 rfl (lv_at hl 1 rfl) ?_
      refine lv_bipush (v := 8) hx hb dX13_classConstant_30 (by decide) ?_
      refine lv_isub hx hb dX13_classConstant_32 ?_
      refine lv_iconst (v := 2) hx hb dX13_classConstant_33 (by decide) ?_
      refine lv_idiv hx hb dX13_classConstant_34 (by decide) ?_
      obtain ⟨⟨g902_0, u2_1⟩, hu_2, hsp⟩ := ox_bind hsp
      try dsimp only at hsp
      have hPc := hP.sub (ws' := [(h0, .inr (13, zs)), (qf65, .inl (cf65, 200, .inl f65)), (qf25, .inl (cf25, 400, .inl f25)), (qf6, .inl (cf6, 3002, .inl f6)), (qf5, .inl (cf5, 3002, .inl f5)), (qf2, .inl (cf2, 3000, .inl f2))]) [0, 1, 2, 3, 4, 5] rfl
      have hDc := hD.sub (ws' := [(h0, .inr (13, zs)), (qf65, .inl (cf65, 200, .inl f65)), (qf25, .inl (cf25, 400, .inl f25)), (qf6, .inl (cf6, 3002, .inl f6)), (qf5, .inl (cf5, 3002, .inl f5)), (qf2, .inl (cf2, 3000, .inl f2))]) [0, 1, 2, 3, 4, 5] (by decide) rfl
      have hKc := hK.sub (tys' := [(cf65, .int), (cf25, .int), (cf6, .int), (cf5, .int), (cf2, .int)]) [0, 1, 2, 3, 4] rfl
      have hFc := va_free (wc := [(h0, .inr (13, zs)), (qf65, .inl (cf65, 200, .inl f65)), (qf25, .inl (cf25, 400, .inl f25)), (qf6, .inl (cf6, 3002, .inl f6)), (qf5, .inl (cf5, 3002, .inl f5)), (qf2, .inl (cf2, 3000, .inl f2))]) hD hS hA [0, 1, 2, 3, 4, 5] rfl
      refine va_callv (va_runV (As := [.int ((a1 - 8) / 2)]) (rest := []) ⟨hx, hb, hml, hown, hts⟩ (vm_spellClass l dC dI H.size h0 zs (((a1 - 8) / 2)) qf2 qf5 qf6 qf25 qf65 v66 cf65 f65 cf25 f25 cf6 f6 cf5 f5 cf2 f2 nS477 fS477 hS477 qS477 tS477 nf g902_0 u2_1 hlen hf2 hf5 hf6 hf25 hf65 hf66 hu_2) (cwV 1 hts gv_h9_29 rfl rfl rfl (by decide +kernel) ⟨Nat.le_of_ble_eq_true rfl, Nat.le_of_ble_eq_true rfl⟩) ⟨fun a U g mk q => by obtain ⟨q0, q1, qP, qK, qD, qhZWS477, qhZRS477⟩ := q; exact ⟨q0, q1, qP, va_K.moved (u := U) (U := U.calling g mk a) (Vm.Alike.refl U.vm) qK, qD, pz_W.moved (u := U) (U := U.calling g mk a) (Vm.Alike.refl U.vm) qhZWS477, vk_R.same rfl qhZRS477⟩, va_recv hKc hPc (ci := 13) (q0 := 0) rfl rfl, fun U hU hW => ⟨rfl, by rw [hU], by rw [hU]; exact hPc, va_K.moved hW.alike hKc, hDc.weaken (fun _ _ _ _ => trivial), by rw [hU]; exact ((pz_W.moved hW.alike hZWS477).kept hS.2.1).narrow hFc, vk_R.warm hW hZRS477⟩⟩ rfl rfl hl.1 rfl (lv_room (Nat.le_of_ble_eq_true rfl)) dX13_classConstant_35 ⟨Nat.le_of_ble_eq_true rfl, Nat.le_of_ble_eq_true rfl⟩) hS (fun q _ h => hFc q h) hFc ?_
      clear hS
      intro u t H1 locs ht hvm hw hB hz1 hk1 hS
      obtain ⟨z_2, rfl⟩ : ∃ z, z = u := ⟨_, rfl⟩
      obtain ⟨hP1, hK1, hD1⟩ := hB
      rw [ht] at hP1
      have hK1 := va_K.moved hvm.symm hK1
      try dsimp only at hw
      have hPD := va_join (wr := [(qf58, .inl (cf58, 2000, .inl f58)), (qf59, .inl (cf59, 2000, .inl f59)), (qf60, .inl (cf60, 2000, .inl f60)), (qf61, .inl (cf61, 2000, .inl f61)), (qf63, .inl (cf63, 40000, .inl f63))]) (w1 := [(h0, .inr (13, z_2)), (qf65, .inl (cf65, 200, .inl g902_0)), (qf25, .inl (cf25, 400, .inl f25)), (qf6, .inl (cf6, 3002, .inl f6)), (qf5, .inl (cf5, 3002, .inl f5)), (qf2, .inl (cf2, 3000, .inl f2))]) hP hD [0, 1, 2, 3, 4, 5] [6, 7, 8, 9, 10] rfl rfl (by decide) (by decide) hk1 hFc hP1 hD1
      clear hP hD
      obtain ⟨hP, hD⟩ := hPD
      replace hK := (hK.sub (tys' := [(cf58, .int), (cf59, .int), (cf60, .int), (cf61, .int), (cf63, .int)]) [5, 6, 7, 8, 9] rfl).app hK1
      clear hPc hDc hKc hFc hP1 hK1 hD1 hz1 hk1 ht hvm
      generalize H1 = H at hP hS ⊢
      replace hP : va_P (dC, dI) vwCl [(qf58, .inl (cf58, 2000, .inl f58)), (qf59, .inl (cf59, 2000, .inl f59)), (qf60, .inl (cf60, 2000, .inl f60)), (qf61, .inl (cf61, 2000, .inl f61)), (qf63, .inl (cf63, 40000, .inl f63)), (h0, .inr (13, z_2)), (qf65, .inl (cf65, 200, .inl g902_0)), (qf25, .inl (cf25, 400, .inl f25)), (qf6, .inl (cf6, 3002, .inl f6)), (qf5, .inl (cf5, 3002, .inl f5)), (qf2, .inl (cf2, 3000, .inl f2))] H := hP
      replace hD : va_D A [(qf58, .inl (cf58, 2000, .inl f58)), (qf59, .inl (cf59, 2000, .inl f59)), (qf60, .inl (cf60, 2000, .inl f60)), (qf61, .inl (cf61, 2000, .inl f61)), (qf63, .inl (cf63, 40000, .inl f63)), (h0, .inr (13, z_2)), (qf65, .inl (cf65, 200, .inl g902_0)), (qf25, .inl (cf25, 400, .inl f25)), (qf6, .inl (cf6, 3002, .inl f6)), (qf5, .inl (cf5, 3002, .inl f5)), (qf2, .inl (cf2, 3000, .inl f2))] := hD
      replace hK : va_K (dC, dI) vwCl [(cf58, .int), (cf59, .int), (cf60, .int), (cf61, .int), (cf63, .int), (cf65, .int), (cf25, .int), (cf6, .int), (cf5, .int), (cf2, .int)] s := hK
      obtain ⟨hwa_2, hln_2, hre_2, hch_2_66⟩ := hw
      have hfk_2_2 : z_2[2]? = some (.ref qf2) := (hre_2 2 (by decide)).trans (hf2)
      have hfk_2_5 : z_2[5]? = some (.ref qf5) := (hre_2 5 (by decide)).trans (hf5)
      have hfk_2_6 : z_2[6]? = some (.ref qf6) := (hre_2 6 (by decide)).trans (hf6)
      have hfk_2_25 : z_2[25]? = some (.ref qf25) := (hre_2 25 (by decide)).trans (hf25)
      have hfk_2_58 : z_2[58]? = some (.ref qf58) := (hre_2 58 (by decide)).trans (hf58)
      have hfk_2_59 : z_2[59]? = some (.ref qf59) := (hre_2 59 (by decide)).trans (hf59)
      have hfk_2_60 : z_2[60]? = some (.ref qf60) := (hre_2 60 (by decide)).trans (hf60)
      have hfk_2_61 : z_2[61]? = some (.ref qf61) := (hre_2 61 (by decide)).trans (hf61)
      have hfk_2_62 : z_2[62]? = some (.int v62) := (hre_2 62 (by decide)).trans (hf62)
      have hfk_2_63 : z_2[63]? = some (.ref qf63) := (hre_2 63 (by decide)).trans (hf63)
      have hfk_2_64 : z_2[64]? = some (.int v64) := (hre_2 64 (by decide)).trans (hf64)
      have hfk_2_65 : z_2[65]? = some (.ref qf65) := (hre_2 65 (by decide)).trans (hf65)
      have hrq_2 : ∀ j : Nat, j ≠ 62 → j ≠ 64 → j ≠ 66 → z_2[j]? = zs[j]? := fun j g62 g64 g66 => (hre_2 j g66).trans (hrs0 j g62 g64 g66)
      refine lv_aload_n hx hb dX13_classConstant_38 rfl (lv_at hl 0 rfl) ?_
      refine lv_iconst (v := 3) hx hb dX13_classConstant_39 (by decide) ?_
      refine lv_aload_n hx hb dX13_classConstant_40 rfl (lv_at hl 0 rfl) ?_
      obtain ⟨⟨u3_0, g903_1, g903_2, g903_3, g903_4, g903_5, u3_6, u3_7, u3_8⟩, hu_3, hsp⟩ := ox_bind hsp
      try dsimp only at hsp
      have hPc := hP.sub (ws' := [(h0, .inr (13, z_2)), (qf58, .inl (cf58, 2000, .inl f58)), (qf59, .inl (cf59, 2000, .inl f59)), (qf60, .inl (cf60, 2000, .inl f60)), (qf61, .inl (cf61, 2000, .inl f61)), (qf65, .inl (cf65, 200, .inl g902_0)), (qf63, .inl (cf63, 40000, .inl f63))]) [5, 0, 1, 2, 3, 6, 4] rfl
      have hDc := hD.sub (ws' := [(h0, .inr (13, z_2)), (qf58, .inl (cf58, 2000, .inl f58)), (qf59, .inl (cf59, 2000, .inl f59)), (qf60, .inl (cf60, 2000, .inl f60)), (qf61, .inl (cf61, 2000, .inl f61)), (qf65, .inl (cf65, 200, .inl g902_0)), (qf63, .inl (cf63, 40000, .inl f63))]) [5, 0, 1, 2, 3, 6, 4] (by decide) rfl
      have hKc := hK.sub (tys' := [(cf58, .int), (cf59, .int), (cf60, .int), (cf61, .int), (cf65, .int), (cf63, .int)]) [0, 1, 2, 3, 5, 4] rfl
      have hFc := va_free (wc := [(h0, .inr (13, z_2)), (qf58, .inl (cf58, 2000, .inl f58)), (qf59, .inl (cf59, 2000, .inl f59)), (qf60, .inl (cf60, 2000, .inl f60)), (qf61, .inl (cf61, 2000, .inl f61)), (qf65, .inl (cf65, 200, .inl g902_0)), (qf63, .inl (cf63, 40000, .inl f63))]) hD hS hA [5, 0, 1, 2, 3, 6, 4] rfl
      refine va_calli (va_runV (As := []) (rest := [.int 3, .ref h0]) ⟨hx, hb, hml, hown, hts⟩ (vm_spelling l dC dI H.size h0 z_2 qf58 qf59 qf60 qf61 v62 qf63 v64 qf65 u2_1 cf58 f58 cf59 f59 cf60 f60 cf61 f61 cf65 g902_0 cf63 f63 nf u3_0 g903_1 g903_2 g903_3 g903_4 g903_5 u3_6 u3_7 u3_8 hln_2 hfk_2_58 hfk_2_59 hfk_2_60 hfk_2_61 hfk_2_62 hfk_2_63 hfk_2_64 hfk_2_65 hch_2_66 hu_3) (cwV 0 hts gv_h9_79 rfl rfl rfl (by decide +kernel) ⟨Nat.le_of_ble_eq_true rfl, Nat.le_of_ble_eq_true rfl⟩) ⟨fun a U g mk q => by obtain ⟨q0, q1, qP, qK, qD⟩ := q; exact ⟨q0, q1, qP, va_K.moved (u := U) (U := U.calling g mk a) (Vm.Alike.refl U.vm) qK, qD⟩, va_recv hKc hPc (ci := 13) (q0 := 0) rfl rfl, fun U hU hW => ⟨rfl, by rw [hU], by rw [hU]; exact hPc, va_K.moved hW.alike hKc, hDc.weaken (fun _ _ _ _ => trivial)⟩⟩ rfl rfl hl.1 rfl (lv_room (Nat.le_of_ble_eq_true rfl)) dX13_classConstant_41 ⟨Nat.le_of_ble_eq_true rfl, Nat.le_of_ble_eq_true rfl⟩) hS (fun q _ h => hFc q h) hFc ?_
      clear hS
      intro r_4 u t H1 locs ht hvm hw hB hz1 hk1 hS
      obtain ⟨z_3, rfl⟩ : ∃ z, z = u := ⟨_, rfl⟩
      obtain ⟨hP1, hK1, hD1⟩ := hB
      rw [ht] at hP1
      have hK1 := va_K.moved hvm.symm hK1
      try dsimp only at hw
      have hPD := va_join (wr := [(qf25, .inl (cf25, 400, .inl f25)), (qf6, .inl (cf6, 3002, .inl f6)), (qf5, .inl (cf5, 3002, .inl f5)), (qf2, .inl (cf2, 3000, .inl f2))]) (w1 := [(h0, .inr (13, z_3)), (qf58, .inl (cf58, 2000, .inl g903_1)), (qf59, .inl (cf59, 2000, .inl g903_2)), (qf60, .inl (cf60, 2000, .inl g903_3)), (qf61, .inl (cf61, 2000, .inl g903_4)), (qf65, .inl (cf65, 200, .inl g902_0)), (qf63, .inl (cf63, 40000, .inl g903_5))]) hP hD [5, 0, 1, 2, 3, 6, 4] [7, 8, 9, 10] rfl rfl (by decide) (by decide) hk1 hFc hP1 hD1
      clear hP hD
      obtain ⟨hP, hD⟩ := hPD
      replace hK := (hK.sub (tys' := [(cf25, .int), (cf6, .int), (cf5, .int), (cf2, .int)]) [6, 7, 8, 9] rfl).app hK1
      clear hPc hDc hKc hFc hP1 hK1 hD1 hz1 hk1 ht hvm
      generalize H1 = H at hP hS ⊢
      replace hP : va_P (dC, dI) vwCl [(qf25, .inl (cf25, 400, .inl f25)), (qf6, .inl (cf6, 3002, .inl f6)), (qf5, .inl (cf5, 3002, .inl f5)), (qf2, .inl (cf2, 3000, .inl f2)), (h0, .inr (13, z_3)), (qf58, .inl (cf58, 2000, .inl g903_1)), (qf59, .inl (cf59, 2000, .inl g903_2)), (qf60, .inl (cf60, 2000, .inl g903_3)), (qf61, .inl (cf61, 2000, .inl g903_4)), (qf65, .inl (cf65, 200, .inl g902_0)), (qf63, .inl (cf63, 40000, .inl g903_5))] H := hP
      replace hD : va_D A [(qf25, .inl (cf25, 400, .inl f25)), (qf6, .inl (cf6, 3002, .inl f6)), (qf5, .inl (cf5, 3002, .inl f5)), (qf2, .inl (cf2, 3000, .inl f2)), (h0, .inr (13, z_3)), (qf58, .inl (cf58, 2000, .inl g903_1)), (qf59, .inl (cf59, 2000, .inl g903_2)), (qf60, .inl (cf60, 2000, .inl g903_3)), (qf61, .inl (cf61, 2000, .inl g903_4)), (qf65, .inl (cf65, 200, .inl g902_0)), (qf63, .inl (cf63, 40000, .inl g903_5))] := hD
      replace hK : va_K (dC, dI) vwCl [(cf25, .int), (cf6, .int), (cf5, .int), (cf2, .int), (cf58, .int), (cf59, .int), (cf60, .int), (cf61, .int), (cf65, .int), (cf63, .int)] s := hK
      obtain ⟨hwa_3, hln_3, hre_3, hch_3_62, hch_3_64, hch_3_66⟩ := hw
      have hfk_3_2 : z_3[2]? = some (.ref qf2) := (hre_3 2 (by decide) (by decide) (by decide)).trans (hfk_2_2)
      have hfk_3_5 : z_3[5]? = some (.ref qf5) := (hre_3 5 (by decide) (by decide) (by decide)).trans (hfk_2_5)
      have hfk_3_6 : z_3[6]? = some (.ref qf6) := (hre_3 6 (by decide) (by decide) (by decide)).trans (hfk_2_6)
      have hfk_3_25 : z_3[25]? = some (.ref qf25) := (hre_3 25 (by decide) (by decide) (by decide)).trans (hfk_2_25)
      have hfk_3_58 : z_3[58]? = some (.ref qf58) := (hre_3 58 (by decide) (by decide) (by decide)).trans (hfk_2_58)
      have hfk_3_59 : z_3[59]? = some (.ref qf59) := (hre_3 59 (by decide) (by decide) (by decide)).trans (hfk_2_59)
      have hfk_3_60 : z_3[60]? = some (.ref qf60) := (hre_3 60 (by decide) (by decide) (by decide)).trans (hfk_2_60)
      have hfk_3_61 : z_3[61]? = some (.ref qf61) := (hre_3 61 (by decide) (by decide) (by decide)).trans (hfk_2_61)
      have hfk_3_63 : z_3[63]? = some (.ref qf63) := (hre_3 63 (by decide) (by decide) (by decide)).trans (hfk_2_63)
      have hfk_3_65 : z_3[65]? = some (.ref qf65) := (hre_3 65 (by decide) (by decide) (by decide)).trans (hfk_2_65)
      have hrq_3 : ∀ j : Nat, j ≠ 62 → j ≠ 64 → j ≠ 66 → z_3[j]? = zs[j]? := fun j g62 g64 g66 => (hre_3 j g62 g64 g66).trans (hrq_2 j g62 g64 g66)
      obtain rfl := hwa_3
      refine lv_iconst (v := 0) hx hb dX13_classConstant_44 (by decide) ?_
      refine lv_iconst (v := 0) hx hb dX13_classConstant_45 (by decide) ?_
      obtain ⟨⟨u4_0, g904_1, g904_2, g904_3, g904_4, u4_5⟩, hu_4, hsp⟩ := ox_bind hsp
      try dsimp only at hsp
      have hPc := hP.sub (ws' := [(h0, .inr (13, z_3)), (qf58, .inl (cf58, 2000, .inl g903_1)), (qf59, .inl (cf59, 2000, .inl g903_2)), (qf60, .inl (cf60, 2000, .inl g903_3)), (qf61, .inl (cf61, 2000, .inl g903_4))]) [4, 5, 6, 7, 8] rfl
      have hDc := hD.sub (ws' := [(h0, .inr (13, z_3)), (qf58, .inl (cf58, 2000, .inl g903_1)), (qf59, .inl (cf59, 2000, .inl g903_2)), (qf60, .inl (cf60, 2000, .inl g903_3)), (qf61, .inl (cf61, 2000, .inl g903_4))]) [4, 5, 6, 7, 8] (by decide) rfl
      have hKc := hK.sub (tys' := [(cf58, .int), (cf59, .int), (cf60, .int), (cf61, .int)]) [4, 5, 6, 7] rfl
      have hFc := va_free (wc := [(h0, .inr (13, z_3)), (qf58, .inl (cf58, 2000, .inl g903_1)), (qf59, .inl (cf59, 2000, .inl g903_2)), (qf60, .inl (cf60, 2000, .inl g903_3)), (qf61, .inl (cf61, 2000, .inl g903_4))]) hD hS hA [4, 5, 6, 7, 8] rfl
      refine va_calli (va_runV (As := [.int 3, .int u3_0, .int 0, .int 0]) (rest := []) ⟨hx, hb, hml, hown, hts⟩ (vm_constant l dC dI H.size h0 z_3 3 u3_0 0 0 qf58 qf59 qf60 qf61 u3_6 cf58 g903_1 cf59 g903_2 cf60 g903_3 cf61 g903_4 nf u4_0 g904_1 g904_2 g904_3 g904_4 u4_5 hln_3 hfk_3_58 hfk_3_59 hfk_3_60 hfk_3_61 hch_3_62 hu_4) (cwV 4 hts gv_h9_33 rfl rfl rfl (by decide +kernel) ⟨Nat.le_of_ble_eq_true rfl, Nat.le_of_ble_eq_true rfl⟩) ⟨fun a U g mk q => by obtain ⟨q0, q1, qP, qK, qD⟩ := q; exact ⟨q0, q1, qP, va_K.moved (u := U) (U := U.calling g mk a) (Vm.Alike.refl U.vm) qK, qD⟩, va_recv hKc hPc (ci := 13) (q0 := 0) rfl rfl, fun U hU hW => ⟨rfl, by rw [hU], by rw [hU]; exact hPc, va_K.moved hW.alike hKc, hDc.weaken (fun _ _ _ _ => trivial)⟩⟩ rfl rfl hl.1 rfl (lv_room (Nat.le_of_ble_eq_true rfl)) dX13_classConstant_46 ⟨Nat.le_of_ble_eq_true rfl, Nat.le_of_ble_eq_true rfl⟩) hS (fun q _ h => hFc q h) hFc ?_
      clear hS
      intro r_5 u t H1 locs ht hvm hw hB hz1 hk1 hS
      obtain ⟨z_4, rfl⟩ : ∃ z, z = u := ⟨_, rfl⟩
      obtain ⟨hP1, hK1, hD1⟩ := hB
      rw [ht] at hP1
      have hK1 := va_K.moved hvm.symm hK1
      try dsimp only at hw
      have hPD := va_join (wr := [(qf25, .inl (cf25, 400, .inl f25)), (qf6, .inl (cf6, 3002, .inl f6)), (qf5, .inl (cf5, 3002, .inl f5)), (qf2, .inl (cf2, 3000, .inl f2)), (qf65, .inl (cf65, 200, .inl g902_0)), (qf63, .inl (cf63, 40000, .inl g903_5))]) (w1 := [(h0, .inr (13, z_4)), (qf58, .inl (cf58, 2000, .inl g904_1)), (qf59, .inl (cf59, 2000, .inl g904_2)), (qf60, .inl (cf60, 2000, .inl g904_3)), (qf61, .inl (cf61, 2000, .inl g904_4))]) hP hD [4, 5, 6, 7, 8] [0, 1, 2, 3, 9, 10] rfl rfl (by decide) (by decide) hk1 hFc hP1 hD1
      clear hP hD
      obtain ⟨hP, hD⟩ := hPD
      replace hK := (hK.sub (tys' := [(cf25, .int), (cf6, .int), (cf5, .int), (cf2, .int), (cf65, .int), (cf63, .int)]) [0, 1, 2, 3, 8, 9] rfl).app hK1
      clear hPc hDc hKc hFc hP1 hK1 hD1 hz1 hk1 ht hvm
      generalize H1 = H at hP hS ⊢
      replace hP : va_P (dC, dI) vwCl [(qf25, .inl (cf25, 400, .inl f25)), (qf6, .inl (cf6, 3002, .inl f6)), (qf5, .inl (cf5, 3002, .inl f5)), (qf2, .inl (cf2, 3000, .inl f2)), (qf65, .inl (cf65, 200, .inl g902_0)), (qf63, .inl (cf63, 40000, .inl g903_5)), (h0, .inr (13, z_4)), (qf58, .inl (cf58, 2000, .inl g904_1)), (qf59, .inl (cf59, 2000, .inl g904_2)), (qf60, .inl (cf60, 2000, .inl g904_3)), (qf61, .inl (cf61, 2000, .inl g904_4))] H := hP
      replace hD : va_D A [(qf25, .inl (cf25, 400, .inl f25)), (qf6, .inl (cf6, 3002, .inl f6)), (qf5, .inl (cf5, 3002, .inl f5)), (qf2, .inl (cf2, 3000, .inl f2)), (qf65, .inl (cf65, 200, .inl g902_0)), (qf63, .inl (cf63, 40000, .inl g903_5)), (h0, .inr (13, z_4)), (qf58, .inl (cf58, 2000, .inl g904_1)), (qf59, .inl (cf59, 2000, .inl g904_2)), (qf60, .inl (cf60, 2000, .inl g904_3)), (qf61, .inl (cf61, 2000, .inl g904_4))] := hD
      replace hK : va_K (dC, dI) vwCl [(cf25, .int), (cf6, .int), (cf5, .int), (cf2, .int), (cf65, .int), (cf63, .int), (cf58, .int), (cf59, .int), (cf60, .int), (cf61, .int)] s := hK
      obtain ⟨hwa_4, hln_4, hre_4, hch_4_62⟩ := hw
      have hfk_4_2 : z_4[2]? = some (.ref qf2) := (hre_4 2 (by decide)).trans (hfk_3_2)
      have hfk_4_5 : z_4[5]? = some (.ref qf5) := (hre_4 5 (by decide)).trans (hfk_3_5)
      have hfk_4_6 : z_4[6]? = some (.ref qf6) := (hre_4 6 (by decide)).trans (hfk_3_6)
      have hfk_4_25 : z_4[25]? = some (.ref qf25) := (hre_4 25 (by decide)).trans (hfk_3_25)
      have hfk_4_58 : z_4[58]? = some (.ref qf58) := (hre_4 58 (by decide)).trans (hfk_3_58)
      have hfk_4_59 : z_4[59]? = some (.ref qf59) := (hre_4 59 (by decide)).trans (hfk_3_59)
      have hfk_4_60 : z_4[60]? = some (.ref qf60) := (hre_4 60 (by decide)).trans (hfk_3_60)
      have hfk_4_61 : z_4[61]? = some (.ref qf61) := (hre_4 61 (by decide)).trans (hfk_3_61)
      have hfk_4_63 : z_4[63]? = some (.ref qf63) := (hre_4 63 (by decide)).trans (hfk_3_63)
      have hfk_4_64 : z_4[64]? = some (.int u3_7) := (hre_4 64 (by decide)).trans (hch_3_64)
      have hfk_4_65 : z_4[65]? = some (.ref qf65) := (hre_4 65 (by decide)).trans (hfk_3_65)
      have hfk_4_66 : z_4[66]? = some (.int u3_8) := (hre_4 66 (by decide)).trans (hch_3_66)
      have hrq_4 : ∀ j : Nat, j ≠ 62 → j ≠ 64 → j ≠ 66 → z_4[j]? = zs[j]? := fun j g62 g64 g66 => (hre_4 j g62).trans (hrq_3 j g62 g64 g66)
      obtain rfl := hwa_4
      have hr0 := Option.some.inj hsp
      clear hsp
      obtain ⟨hq0, hr1⟩ := Prod.mk.inj hr0
      clear hr0
      obtain ⟨hq1, hr2⟩ := Prod.mk.inj hr1
      clear hr1
      obtain ⟨hq2, hr3⟩ := Prod.mk.inj hr2
      clear hr2
      obtain ⟨hq3, hr4⟩ := Prod.mk.inj hr3
      clear hr3
      obtain ⟨hq4, hr5⟩ := Prod.mk.inj hr4
      clear hr4
      obtain ⟨hq5, hr6⟩ := Prod.mk.inj hr5
      clear hr5
      obtain ⟨hq6, hr7⟩ := Prod.mk.inj hr6
      clear hr6
      obtain ⟨hq7, hr8⟩ := Prod.mk.inj hr7
      clear hr7
      obtain ⟨hq8, hr9⟩ := Prod.mk.inj hr8
      clear hr8
      subst hq0
      subst hq1
      subst hq2
      subst hq3
      subst hq4
      subst hq5
      subst hq6
      subst hq7
      subst hq8
      subst hr9
      have hP9 := hP.sub (ws' := [(h0, .inr (13, z_4)), (qf65, .inl (cf65, 200, .inl g902_0)), (qf25, .inl (cf25, 400, .inl f25)), (qf6, .inl (cf6, 3002, .inl f6)), (qf5, .inl (cf5, 3002, .inl f5)), (qf2, .inl (cf2, 3000, .inl f2)), (qf58, .inl (cf58, 2000, .inl g904_1)), (qf59, .inl (cf59, 2000, .inl g904_2)), (qf60, .inl (cf60, 2000, .inl g904_3)), (qf61, .inl (cf61, 2000, .inl g904_4)), (qf63, .inl (cf63, 40000, .inl g903_5))]) [6, 4, 0, 1, 2, 3, 7, 8, 9, 10, 5] rfl
      have hD9 := hD.sub (ws' := [(h0, .inr (13, z_4)), (qf65, .inl (cf65, 200, .inl g902_0)), (qf25, .inl (cf25, 400, .inl f25)), (qf6, .inl (cf6, 3002, .inl f6)), (qf5, .inl (cf5, 3002, .inl f5)), (qf2, .inl (cf2, 3000, .inl f2)), (qf58, .inl (cf58, 2000, .inl g904_1)), (qf59, .inl (cf59, 2000, .inl g904_2)), (qf60, .inl (cf60, 2000, .inl g904_3)), (qf61, .inl (cf61, 2000, .inl g904_4)), (qf63, .inl (cf63, 40000, .inl g903_5))]) [6, 4, 0, 1, 2, 3, 7, 8, 9, 10, 5] (by decide) rfl
      have hK9 := hK.sub (tys' := [(cf65, .int), (cf25, .int), (cf6, .int), (cf5, .int), (cf2, .int), (cf58, .int), (cf59, .int), (cf60, .int), (cf61, .int), (cf63, .int)]) [4, 0, 1, 2, 3, 6, 7, 8, 9, 5] rfl
      exact W.iret hx hb hr (fun t ht hW => ⟨⟨(u4_0), (z_4), rfl, ⟨rfl, hln_4, hrq_4, hch_4_62, hfk_4_64, hfk_4_66⟩, by rw [ht]; exact hP9, va_K.moved hW.alike hK9, hD9⟩, hS.F ht⟩) hS.2.2 dX13_classConstant_49
    · rw [if_neg (by decide)] at hsp
      refine lv_if_eq (tgt := 28) hx hb dX13_classConstant_17 (by decide) (fun c_6 => (show False by revert c_6; decide).elim) (fun c_6 => ?_)
      refine lv_aload_n hx hb dX13_classConstant_20 rfl (lv_at hl 0 rfl) ?_
      refine lv_iload_n hx hb dX13_classConstant_21 rfl (lv_at hl 1 rfl) ?_
      obtain ⟨⟨g905_0, u5_1⟩, hu_5, hsp⟩ := ox_bind hsp
      try dsimp only at hsp
      have hPc := hP.sub (ws' := [(h0, .inr (13, zs)), (qf65, .inl (cf65, 200, .inl f65)), (qf25, .inl (cf25, 400, .inl f25)), (qf6, .inl (cf6, 3002, .inl f6)), (qf5, .inl (cf5, 3002, .inl f5)), (qf2, .inl (cf2, 3000, .inl f2))]) [0, 1, 2, 3, 4, 5] rfl
      have hDc := hD.sub (ws' := [(h0, .inr (13, zs)), (qf65, .inl (cf65, 200, .inl f65)), (qf25, .inl (cf25, 400, .inl f25)), (qf6, .inl (cf6, 3002, .inl f6)), (qf5, .inl (cf5, 3002, .inl f5)), (qf2, .inl (cf2, 3000, .inl f2))]) [0, 1, 2, 3, 4, 5] (by decide) rfl
      have hKc := hK.sub (tys' := [(cf65, .int), (cf25, .int), (cf6, .int), (cf5, .int), (cf2, .int)]) [0, 1, 2, 3, 4] rfl
      have hFc := va_free (wc := [(h0, .inr (13, zs)), (qf65, .inl (cf65, 200, .inl f65)), (qf25, .inl (cf25, 400, .inl f25)), (qf6, .inl (cf6, 3002, .inl f6)), (qf5, .inl (cf5, 3002, .inl f5)), (qf2, .inl (cf2, 3000, .inl f2))]) hD hS hA [0, 1, 2, 3, 4, 5] rfl
      refine va_callv (va_runV (As := [.int a1]) (rest := []) ⟨hx, hb, hml, hown, hts⟩ (vm_spellKind l dC dI H.size h0 zs a1 qf2 qf5 qf6 qf25 qf65 v66 cf65 f65 cf25 f25 cf6 f6 cf5 f5 cf2 f2 nS477 fS477 hS477 qS477 tS477 nf g905_0 u5_1 hlen hf2 hf5 hf6 hf25 hf65 hf66 hu_5) (cwV 1 hts gv_h9_30 rfl rfl rfl (by decide +kernel) ⟨Nat.le_of_ble_eq_true rfl, Nat.le_of_ble_eq_true rfl⟩) ⟨fun a U g mk q => by obtain ⟨q0, q1, qP, qK, qD, qhZWS477, qhZRS477⟩ := q; exact ⟨q0, q1, qP, va_K.moved (u := U) (U := U.calling g mk a) (Vm.Alike.refl U.vm) qK, qD, pz_W.moved (u := U) (U := U.calling g mk a) (Vm.Alike.refl U.vm) qhZWS477, vk_R.same rfl qhZRS477⟩, va_recv hKc hPc (ci := 13) (q0 := 0) rfl rfl, fun U hU hW => ⟨rfl, by rw [hU], by rw [hU]; exact hPc, va_K.moved hW.alike hKc, hDc.weaken (fun _ _ _ _ => trivial), by rw [hU]; exact ((pz_W.moved hW.alike hZWS477).kept hS.2.1).narrow hFc, vk_R.warm hW hZRS477⟩⟩ rfl rfl hl.1 rfl (lv_room (Nat.le_of_ble_eq_true rfl)) dX13_classConstant_22 ⟨Nat.le_of_ble_eq_true rfl, Nat.le_of_ble_eq_true rfl⟩) hS (fun q _ h => hFc q h) hFc ?_
      clear hS
      intro u t H1 locs ht hvm hw hB hz1 hk1 hS
      obtain ⟨z_5, rfl⟩ : ∃ z, z = u := ⟨_, rfl⟩
      obtain ⟨hP1, hK1, hD1⟩ := hB
      rw [ht] at hP1
      have hK1 := va_K.moved hvm.symm hK1
      try dsimp only at hw
      have hPD := va_join (wr := [(qf58, .inl (cf58, 2000, .inl f58)), (qf59, .inl (cf59, 2000, .inl f59)), (qf60, .inl (cf60, 2000, .inl f60)), (qf61, .inl (cf61, 2000, .inl f61)), (qf63, .inl (cf63, 40000, .inl f63))]) (w1 := [(h0, .inr (13, z_5)), (qf65, .inl (cf65, 200, .inl g905_0)), (qf25, .inl (cf25, 400, .inl f25)), (qf6, .inl (cf6, 3002, .inl f6)), (qf5, .inl (cf5, 3002, .inl f5)), (qf2, .inl (cf2, 3000, .inl f2))]) hP hD [0, 1, 2, 3, 4, 5] [6, 7, 8, 9, 10] rfl rfl (by decide) (by decide) hk1 hFc hP1 hD1
      clear hP hD
      obtain ⟨hP, hD⟩ := hPD
      replace hK := (hK.sub (tys' := [(cf58, .int), (cf59, .int), (cf60, .int), (cf61, .int), (cf63, .int)]) [5, 6, 7, 8, 9] rfl).app hK1
      clear hPc hDc hKc hFc hP1 hK1 hD1 hz1 hk1 ht hvm
      generalize H1 = H at hP hS ⊢
      replace hP : va_P (dC, dI) vwCl [(qf58, .inl (cf58, 2000, .inl f58)), (qf59, .inl (cf59, 2000, .inl f59)), (qf60, .inl (cf60, 2000, .inl f60)), (qf61, .inl (cf61, 2000, .inl f61)), (qf63, .inl (cf63, 40000, .inl f63)), (h0, .inr (13, z_5)), (qf65, .inl (cf65, 200, .inl g905_0)), (qf25, .inl (cf25, 400, .inl f25)), (qf6, .inl (cf6, 3002, .inl f6)), (qf5, .inl (cf5, 3002, .inl f5)), (qf2, .inl (cf2, 3000, .inl f2))] H := hP
      replace hD : va_D A [(qf58, .inl (cf58, 2000, .inl f58)), (qf59, .inl (cf59, 2000, .inl f59)), (qf60, .inl (cf60, 2000, .inl f60)), (qf61, .inl (cf61, 2000, .inl f61)), (qf63, .inl (cf63, 40000, .inl f63)), (h0, .inr (13, z_5)), (qf65, .inl (cf65, 200, .inl g905_0)), (qf25, .inl (cf25, 400, .inl f25)), (qf6, .inl (cf6, 3002, .inl f6)), (qf5, .inl (cf5, 3002, .inl f5)), (qf2, .inl (cf2, 3000, .inl f2))] := hD
      replace hK : va_K (dC, dI) vwCl [(cf58, .int), (cf59, .int), (cf60, .int), (cf61, .int), (cf63, .int), (cf65, .int), (cf25, .int), (cf6, .int), (cf5, .int), (cf2, .int)] s := hK
      obtain ⟨hwa_5, hln_5, hre_5, hch_5_66⟩ := hw
      have hfk_5_2 : z_5[2]? = some (.ref qf2) := (hre_5 2 (by decide)).trans (hf2)
      have hfk_5_5 : z_5[5]? = some (.ref qf5) := (hre_5 5 (by decide)).trans (hf5)
      have hfk_5_6 : z_5[6]? = some (.ref qf6) := (hre_5 6 (by decide)).trans (hf6)
      have hfk_5_25 : z_5[25]? = some (.ref qf25) := (hre_5 25 (by decide)).trans (hf25)
      have hfk_5_58 : z_5[58]? = some (.ref qf58) := (hre_5 58 (by decide)).trans (hf58)
      have hfk_5_59 : z_5[59]? = some (.ref qf59) := (hre_5 59 (by decide)).trans (hf59)
      have hfk_5_60 : z_5[60]? = some (.ref qf60) := (hre_5 60 (by decide)).trans (hf60)
      have hfk_5_61 : z_5[61]? = some (.ref qf61) := (hre_5 61 (by decide)).trans (hf61)
      have hfk_5_62 : z_5[62]? = some (.int v62) := (hre_5 62 (by decide)).trans (hf62)
      have hfk_5_63 : z_5[63]? = some (.ref qf63) := (hre_5 63 (by decide)).trans (hf63)
      have hfk_5_64 : z_5[64]? = some (.int v64) := (hre_5 64 (by decide)).trans (hf64)
      have hfk_5_65 : z_5[65]? = some (.ref qf65) := (hre_5 65 (by decide)).trans (hf65)
      have hrq_5 : ∀ j : Nat, j ≠ 62 → j ≠ 64 → j ≠ 66 → z_5[j]? = zs[j]? := fun j g62 g64 g66 => (hre_5 j g66).trans (hrs0 j g62 g64 g66)
      refine lv_goto (tgt := 38) hx hb dX13_classConstant_25 (by decide) ?_
      refine lv_aload_n hx hb dX13_classConstant_38 rfl (lv_at hl 0 rfl) ?_
      refine lv_iconst (v := 3) hx hb dX13_classConstant_39 (by decide) ?_
      refine lv_aload_n hx hb dX13_classConstant_40 rfl (lv_at hl 0 rfl) ?_
      obtain ⟨⟨u6_0, g906_1, g906_2, g906_3, g906_4, g906_5, u6_6, u6_7, u6_8⟩, hu_6, hsp⟩ := ox_bind hsp
      try dsimp only at hsp
      have hPc := hP.sub (ws' := [(h0, .inr (13, z_5)), (qf58, .inl (cf58, 2000, .inl f58)), (qf59, .inl (cf59, 2000, .inl f59)), (qf60, .inl (cf60, 2000, .inl f60)), (qf61, .inl (cf61, 2000, .inl f61)), (qf65, .inl (cf65, 200, .inl g905_0)), (qf63, .inl (cf63, 40000, .inl f63))]) [5, 0, 1, 2, 3, 6, 4] rfl
      have hDc := hD.sub (ws' := [(h0, .inr (13, z_5)), (qf58, .inl (cf58, 2000, .inl f58)), (qf59, .inl (cf59, 2000, .inl f59)), (qf60, .inl (cf60, 2000, .inl f60)), (qf61, .inl (cf61, 2000, .inl f61)), (qf65, .inl (cf65, 200, .inl g905_0)), (qf63, .inl (cf63, 40000, .inl f63))]) [5, 0, 1, 2, 3, 6, 4] (by decide) rfl
      have hKc := hK.sub (tys' := [(cf58, .int), (cf59, .int), (cf60, .int), (cf61, .int), (cf65, .int), (cf63, .int)]) [0, 1, 2, 3, 5, 4] rfl
      have hFc := va_free (wc := [(h0, .inr (13, z_5)), (qf58, .inl (cf58, 2000, .inl f58)), (qf59, .inl (cf59, 2000, .inl f59)), (qf60, .inl (cf60, 2000, .inl f60)), (qf61, .inl (cf61, 2000, .inl f61)), (qf65, .inl (cf65, 200, .inl g905_0)), (qf63, .inl (cf63, 40000, .inl f63))]) hD hS hA [5, 0, 1, 2, 3, 6, 4] rfl
      refine va_calli (va_runV (As := []) (rest := [.int 3, .ref h0]) ⟨hx, hb, hml, hown, hts⟩ (vm_spelling l dC dI H.size h0 z_5 qf58 qf59 qf60 qf61 v62 qf63 v64 qf65 u5_1 cf58 f58 cf59 f59 cf60 f60 cf61 f61 cf65 g905_0 cf63 f63 nf u6_0 g906_1 g906_2 g906_3 g906_4 g906_5 u6_6 u6_7 u6_8 hln_5 hfk_5_58 hfk_5_59 hfk_5_60 hfk_5_61 hfk_5_62 hfk_5_63 hfk_5_64 hfk_5_65 hch_5_66 hu_6) (cwV 0 hts gv_h9_79 rfl rfl rfl (by decide +kernel) ⟨Nat.le_of_ble_eq_true rfl, Nat.le_of_ble_eq_true rfl⟩) ⟨fun a U g mk q => by obtain ⟨q0, q1, qP, qK, qD⟩ := q; exact ⟨q0, q1, qP, va_K.moved (u := U) (U := U.calling g mk a) (Vm.Alike.refl U.vm) qK, qD⟩, va_recv hKc hPc (ci := 13) (q0 := 0) rfl rfl, fun U hU hW => ⟨rfl, by rw [hU], by rw [hU]; exact hPc, va_K.moved hW.alike hKc, hDc.weaken (fun _ _ _ _ => trivial)⟩⟩ rfl rfl hl.1 rfl (lv_room (Nat.le_of_ble_eq_true rfl)) dX13_classConstant_41 ⟨Nat.le_of_ble_eq_true rfl, Nat.le_of_ble_eq_true rfl⟩) hS (fun q _ h => hFc q h) hFc ?_
      clear hS
      intro r_7 u t H1 locs ht hvm hw hB hz1 hk1 hS
      obtain ⟨z_6, rfl⟩ : ∃ z, z = u := ⟨_, rfl⟩
      obtain ⟨hP1, hK1, hD1⟩ := hB
      rw [ht] at hP1
      have hK1 := va_K.moved hvm.symm hK1
      try dsimp only at hw
      have hPD := va_join (wr := [(qf25, .inl (cf25, 400, .inl f25)), (qf6, .inl (cf6, 3002, .inl f6)), (qf5, .inl (cf5, 3002, .inl f5)), (qf2, .inl (cf2, 3000, .inl f2))]) (w1 := [(h0, .inr (13, z_6)), (qf58, .inl (cf58, 2000, .inl g906_1)), (qf59, .inl (cf59, 2000, .inl g906_2)), (qf60, .inl (cf60, 2000, .inl g906_3)), (qf61, .inl (cf61, 2000, .inl g906_4)), (qf65, .inl (cf65, 200, .inl g905_0)), (qf63, .inl (cf63, 40000, .inl g906_5))]) hP hD [5, 0, 1, 2, 3, 6, 4] [7, 8, 9, 10] rfl rfl (by decide) (by decide) hk1 hFc hP1 hD1
      clear hP hD
      obtain ⟨hP, hD⟩ := hPD
      replace hK := (hK.sub (tys' := [(cf25, .int), (cf6, .int), (cf5, .int), (cf2, .int)]) [6, 7, 8, 9] rfl).app hK1
      clear hPc hDc hKc hFc hP1 hK1 hD1 hz1 hk1 ht hvm
      generalize H1 = H at hP hS ⊢
      replace hP : va_P (dC, dI) vwCl [(qf25, .inl (cf25, 400, .inl f25)), (qf6, .inl (cf6, 3002, .inl f6)), (qf5, .inl (cf5, 3002, .inl f5)), (qf2, .inl (cf2, 3000, .inl f2)), (h0, .inr (13, z_6)), (qf58, .inl (cf58, 2000, .inl g906_1)), (qf59, .inl (cf59, 2000, .inl g906_2)), (qf60, .inl (cf60, 2000, .inl g906_3)), (qf61, .inl (cf61, 2000, .inl g906_4)), (qf65, .inl (cf65, 200, .inl g905_0)), (qf63, .inl (cf63, 40000, .inl g906_5))] H := hP
      replace hD : va_D A [(qf25, .inl (cf25, 400, .inl f25)), (qf6, .inl (cf6, 3002, .inl f6)), (qf5, .inl (cf5, 3002, .inl f5)), (qf2, .inl (cf2, 3000, .inl f2)), (h0, .inr (13, z_6)), (qf58, .inl (cf58, 2000, .inl g906_1)), (qf59, .inl (cf59, 2000, .inl g906_2)), (qf60, .inl (cf60, 2000, .inl g906_3)), (qf61, .inl (cf61, 2000, .inl g906_4)), (qf65, .inl (cf65, 200, .inl g905_0)), (qf63, .inl (cf63, 40000, .inl g906_5))] := hD
      replace hK : va_K (dC, dI) vwCl [(cf25, .int), (cf6, .int), (cf5, .int), (cf2, .int), (cf58, .int), (cf59, .int), (cf60, .int), (cf61, .int), (cf65, .int), (cf63, .int)] s := hK
      obtain ⟨hwa_6, hln_6, hre_6, hch_6_62, hch_6_64, hch_6_66⟩ := hw
      have hfk_6_2 : z_6[2]? = some (.ref qf2) := (hre_6 2 (by decide) (by decide) (by decide)).trans (hfk_5_2)
      have hfk_6_5 : z_6[5]? = some (.ref qf5) := (hre_6 5 (by decide) (by decide) (by decide)).trans (hfk_5_5)
      have hfk_6_6 : z_6[6]? = some (.ref qf6) := (hre_6 6 (by decide) (by decide) (by decide)).trans (hfk_5_6)
      have hfk_6_25 : z_6[25]? = some (.ref qf25) := (hre_6 25 (by decide) (by decide) (by decide)).trans (hfk_5_25)
      have hfk_6_58 : z_6[58]? = some (.ref qf58) := (hre_6 58 (by decide) (by decide) (by decide)).trans (hfk_5_58)
      have hfk_6_59 : z_6[59]? = some (.ref qf59) := (hre_6 59 (by decide) (by decide) (by decide)).trans (hfk_5_59)
      have hfk_6_60 : z_6[60]? = some (.ref qf60) := (hre_6 60 (by decide) (by decide) (by decide)).trans (hfk_5_60)
      have hfk_6_61 : z_6[61]? = some (.ref qf61) := (hre_6 61 (by decide) (by decide) (by decide)).trans (hfk_5_61)
      have hfk_6_63 : z_6[63]? = some (.ref qf63) := (hre_6 63 (by decide) (by decide) (by decide)).trans (hfk_5_63)
      have hfk_6_65 : z_6[65]? = some (.ref qf65) := (hre_6 65 (by decide) (by decide) (by decide)).trans (hfk_5_65)
      have hrq_6 : ∀ j : Nat, j ≠ 62 → j ≠ 64 → j ≠ 66 → z_6[j]? = zs[j]? := fun j g62 g64 g66 => (hre_6 j g62 g64 g66).trans (hrq_5 j g62 g64 g66)
      obtain rfl := hwa_6
      refine lv_iconst (v := 0) hx hb dX13_classConstant_44 (by decide) ?_
      refine lv_iconst (v := 0) hx hb dX13_classConstant_45 (by decide) ?_
      obtain ⟨⟨u7_0, g907_1, g907_2, g907_3, g907_4, u7_5⟩, hu_7, hsp⟩ := ox_bind hsp
      try dsimp only at hsp
      have hPc := hP.sub (ws' := [(h0, .inr (13, z_6)), (qf58, .inl (cf58, 2000, .inl g906_1)), (qf59, .inl (cf59, 2000, .inl g906_2)), (qf60, .inl (cf60, 2000, .inl g906_3)), (qf61, .inl (cf61, 2000, .inl g906_4))]) [4, 5, 6, 7, 8] rfl
      have hDc := hD.sub (ws' := [(h0, .inr (13, z_6)), (qf58, .inl (cf58, 2000, .inl g906_1)), (qf59, .inl (cf59, 2000, .inl g906_2)), (qf60, .inl (cf60, 2000, .inl g906_3)), (qf61, .inl (cf61, 2000, .inl g906_4))]) [4, 5, 6, 7, 8] (by decide) rfl
      have hKc := hK.sub (tys' := [(cf58, .int), (cf59, .int), (cf60, .int), (cf61, .int)]) [4, 5, 6, 7] rfl
      have hFc := va_free (wc := [(h0, .inr (13, z_6)), (qf58, .inl (cf58, 2000, .inl g906_1)), (qf59, .inl (cf59, 2000, .inl g906_2)), (qf60, .inl (cf60, 2000, .inl g906_3)), (qf61, .inl (cf61, 2000, .inl g906_4))]) hD hS hA [4, 5, 6, 7, 8] rfl
      refine va_calli (va_runV (As := [.int 3, .int u6_0, .int 0, .int 0]) (rest := []) ⟨hx, hb, hml, hown, hts⟩ (vm_constant l dC dI H.size h0 z_6 3 u6_0 0 0 qf58 qf59 qf60 qf61 u6_6 cf58 g906_1 cf59 g906_2 cf60 g906_3 cf61 g906_4 nf u7_0 g907_1 g907_2 g907_3 g907_4 u7_5 hln_6 hfk_6_58 hfk_6_59 hfk_6_60 hfk_6_61 hch_6_62 hu_7) (cwV 4 hts gv_h9_33 rfl rfl rfl (by decide +kernel) ⟨Nat.le_of_ble_eq_true rfl, Nat.le_of_ble_eq_true rfl⟩) ⟨fun a U g mk q => by obtain ⟨q0, q1, qP, qK, qD⟩ := q; exact ⟨q0, q1, qP, va_K.moved (u := U) (U := U.calling g mk a) (Vm.Alike.refl U.vm) qK, qD⟩, va_recv hKc hPc (ci := 13) (q0 := 0) rfl rfl, fun U hU hW => ⟨rfl, by rw [hU], by rw [hU]; exact hPc, va_K.moved hW.alike hKc, hDc.weaken (fun _ _ _ _ => trivial)⟩⟩ rfl rfl hl.1 rfl (lv_room (Nat.le_of_ble_eq_true rfl)) dX13_classConstant_46 ⟨Nat.le_of_ble_eq_true rfl, Nat.le_of_ble_eq_true rfl⟩) hS (fun q _ h => hFc q h) hFc ?_
      clear hS
      intro r_8 u t H1 locs ht hvm hw hB hz1 hk1 hS
      obtain ⟨z_7, rfl⟩ : ∃ z, z = u := ⟨_, rfl⟩
      obtain ⟨hP1, hK1, hD1⟩ := hB
      rw [ht] at hP1
      have hK1 := va_K.moved hvm.symm hK1
      try dsimp only at hw
      have hPD := va_join (wr := [(qf25, .inl (cf25, 400, .inl f25)), (qf6, .inl (cf6, 3002, .inl f6)), (qf5, .inl (cf5, 3002, .inl f5)), (qf2, .inl (cf2, 3000, .inl f2)), (qf65, .inl (cf65, 200, .inl g905_0)), (qf63, .inl (cf63, 40000, .inl g906_5))]) (w1 := [(h0, .inr (13, z_7)), (qf58, .inl (cf58, 2000, .inl g907_1)), (qf59, .inl (cf59, 2000, .inl g907_2)), (qf60, .inl (cf60, 2000, .inl g907_3)), (qf61, .inl (cf61, 2000, .inl g907_4))]) hP hD [4, 5, 6, 7, 8] [0, 1, 2, 3, 9, 10] rfl rfl (by decide) (by decide) hk1 hFc hP1 hD1
      clear hP hD
      obtain ⟨hP, hD⟩ := hPD
      replace hK := (hK.sub (tys' := [(cf25, .int), (cf6, .int), (cf5, .int), (cf2, .int), (cf65, .int), (cf63, .int)]) [0, 1, 2, 3, 8, 9] rfl).app hK1
      clear hPc hDc hKc hFc hP1 hK1 hD1 hz1 hk1 ht hvm
      generalize H1 = H at hP hS ⊢
      replace hP : va_P (dC, dI) vwCl [(qf25, .inl (cf25, 400, .inl f25)), (qf6, .inl (cf6, 3002, .inl f6)), (qf5, .inl (cf5, 3002, .inl f5)), (qf2, .inl (cf2, 3000, .inl f2)), (qf65, .inl (cf65, 200, .inl g905_0)), (qf63, .inl (cf63, 40000, .inl g906_5)), (h0, .inr (13, z_7)), (qf58, .inl (cf58, 2000, .inl g907_1)), (qf59, .inl (cf59, 2000, .inl g907_2)), (qf60, .inl (cf60, 2000, .inl g907_3)), (qf61, .inl (cf61, 2000, .inl g907_4))] H := hP
      replace hD : va_D A [(qf25, .inl (cf25, 400, .inl f25)), (qf6, .inl (cf6, 3002, .inl f6)), (qf5, .inl (cf5, 3002, .inl f5)), (qf2, .inl (cf2, 3000, .inl f2)), (qf65, .inl (cf65, 200, .inl g905_0)), (qf63, .inl (cf63, 40000, .inl g906_5)), (h0, .inr (13, z_7)), (qf58, .inl (cf58, 2000, .inl g907_1)), (qf59, .inl (cf59, 2000, .inl g907_2)), (qf60, .inl (cf60, 2000, .inl g907_3)), (qf61, .inl (cf61, 2000, .inl g907_4))] := hD
      replace hK : va_K (dC, dI) vwCl [(cf25, .int), (cf6, .int), (cf5, .int), (cf2, .int), (cf65, .int), (cf63, .int), (cf58, .int), (cf59, .int), (cf60, .int), (cf61, .int)] s := hK
      obtain ⟨hwa_7, hln_7, hre_7, hch_7_62⟩ := hw
      have hfk_7_2 : z_7[2]? = some (.ref qf2) := (hre_7 2 (by decide)).trans (hfk_6_2)
      have hfk_7_5 : z_7[5]? = some (.ref qf5) := (hre_7 5 (by decide)).trans (hfk_6_5)
      have hfk_7_6 : z_7[6]? = some (.ref qf6) := (hre_7 6 (by decide)).trans (hfk_6_6)
      have hfk_7_25 : z_7[25]? = some (.ref qf25) := (hre_7 25 (by decide)).trans (hfk_6_25)
      have hfk_7_58 : z_7[58]? = some (.ref qf58) := (hre_7 58 (by decide)).trans (hfk_6_58)
      have hfk_7_59 : z_7[59]? = some (.ref qf59) := (hre_7 59 (by decide)).trans (hfk_6_59)
      have hfk_7_60 : z_7[60]? = some (.ref qf60) := (hre_7 60 (by decide)).trans (hfk_6_60)
      have hfk_7_61 : z_7[61]? = some (.ref qf61) := (hre_7 61 (by decide)).trans (hfk_6_61)
      have hfk_7_63 : z_7[63]? = some (.ref qf63) := (hre_7 63 (by decide)).trans (hfk_6_63)
      have hfk_7_64 : z_7[64]? = some (.int u6_7) := (hre_7 64 (by decide)).trans (hch_6_64)
      have hfk_7_65 : z_7[65]? = some (.ref qf65) := (hre_7 65 (by decide)).trans (hfk_6_65)
      have hfk_7_66 : z_7[66]? = some (.int u6_8) := (hre_7 66 (by decide)).trans (hch_6_66)
      have hrq_7 : ∀ j : Nat, j ≠ 62 → j ≠ 64 → j ≠ 66 → z_7[j]? = zs[j]? := fun j g62 g64 g66 => (hre_7 j g62).trans (hrq_6 j g62 g64 g66)
      obtain rfl := hwa_7
      have hr0 := Option.some.inj hsp
      clear hsp
      obtain ⟨hq0, hr1⟩ := Prod.mk.inj hr0
      clear hr0
      obtain ⟨hq1, hr2⟩ := Prod.mk.inj hr1
      clear hr1
      obtain ⟨hq2, hr3⟩ := Prod.mk.inj hr2
      clear hr2
      obtain ⟨hq3, hr4⟩ := Prod.mk.inj hr3
      clear hr3
      obtain ⟨hq4, hr5⟩ := Prod.mk.inj hr4
      clear hr4
      obtain ⟨hq5, hr6⟩ := Prod.mk.inj hr5
      clear hr5
      obtain ⟨hq6, hr7⟩ := Prod.mk.inj hr6
      clear hr6
      obtain ⟨hq7, hr8⟩ := Prod.mk.inj hr7
      clear hr7
      obtain ⟨hq8, hr9⟩ := Prod.mk.inj hr8
      clear hr8
      subst hq0
      subst hq1
      subst hq2
      subst hq3
      subst hq4
      subst hq5
      subst hq6
      subst hq7
      subst hq8
      subst hr9
      have hP9 := hP.sub (ws' := [(h0, .inr (13, z_7)), (qf65, .inl (cf65, 200, .inl g905_0)), (qf25, .inl (cf25, 400, .inl f25)), (qf6, .inl (cf6, 3002, .inl f6)), (qf5, .inl (cf5, 3002, .inl f5)), (qf2, .inl (cf2, 3000, .inl f2)), (qf58, .inl (cf58, 2000, .inl g907_1)), (qf59, .inl (cf59, 2000, .inl g907_2)), (qf60, .inl (cf60, 2000, .inl g907_3)), (qf61, .inl (cf61, 2000, .inl g907_4)), (qf63, .inl (cf63, 40000, .inl g906_5))]) [6, 4, 0, 1, 2, 3, 7, 8, 9, 10, 5] rfl
      have hD9 := hD.sub (ws' := [(h0, .inr (13, z_7)), (qf65, .inl (cf65, 200, .inl g905_0)), (qf25, .inl (cf25, 400, .inl f25)), (qf6, .inl (cf6, 3002, .inl f6)), (qf5, .inl (cf5, 3002, .inl f5)), (qf2, .inl (cf2, 3000, .inl f2)), (qf58, .inl (cf58, 2000, .inl g907_1)), (qf59, .inl (cf59, 2000, .inl g907_2)), (qf60, .inl (cf60, 2000, .inl g907_3)), (qf61, .inl (cf61, 2000, .inl g907_4)), (qf63, .inl (cf63, 40000, .inl g906_5))]) [6, 4, 0, 1, 2, 3, 7, 8, 9, 10, 5] (by decide) rfl
      have hK9 := hK.sub (tys' := [(cf65, .int), (cf25, .int), (cf6, .int), (cf5, .int), (cf2, .int), (cf58, .int), (cf59, .int), (cf60, .int), (cf61, .int), (cf63, .int)]) [4, 0, 1, 2, 3, 6, 7, 8, 9, 5] rfl
      exact W.iret hx hb hr (fun t ht hW => ⟨⟨(u7_0), (z_7), rfl, ⟨rfl, hln_7, hrq_7, hch_7_62, hfk_7_64, hfk_7_66⟩, by rw [ht]; exact hP9, va_K.moved hW.alike hK9, hD9⟩, hS.F ht⟩) hS.2.2 dX13_classConstant_49
  · rw [if_pos c_1] at hsp
    refine lv_aload_n hx hb dX13_classConstant_5 rfl (lv_at hl 0 rfl) ?_
    refine lv_iload_n hx hb dX13_classConstant_6 rfl (lv_at hl 1 rfl) ?_
    obtain ⟨⟨g908_0, u8_1⟩, hu_8, hsp⟩ := ox_bind hsp
    try dsimp only at hsp
    have hPc := hP.sub (ws' := [(h0, .inr (13, zs)), (qf65, .inl (cf65, 200, .inl f65)), (qf25, .inl (cf25, 400, .inl f25)), (qf6, .inl (cf6, 3002, .inl f6)), (qf5, .inl (cf5, 3002, .inl f5)), (qf2, .inl (cf2, 3000, .inl f2))]) [0, 1, 2, 3, 4, 5] rfl
    have hDc := hD.sub (ws' := [(h0, .inr (13, zs)), (qf65, .inl (cf65, 200, .inl f65)), (qf25, .inl (cf25, 400, .inl f25)), (qf6, .inl (cf6, 3002, .inl f6)), (qf5, .inl (cf5, 3002, .inl f5)), (qf2, .inl (cf2, 3000, .inl f2))]) [0, 1, 2, 3, 4, 5] (by decide) rfl
    have hKc := hK.sub (tys' := [(cf65, .int), (cf25, .int), (cf6, .int), (cf5, .int), (cf2, .int)]) [0, 1, 2, 3, 4] rfl
    have hFc := va_free (wc := [(h0, .inr (13, zs)), (qf65, .inl (cf65, 200, .inl f65)), (qf25, .inl (cf25, 400, .inl f25)), (qf6, .inl (cf6, 3002, .inl f6)), (qf5, .inl (cf5, 3002, .inl f5)), (qf2, .inl (cf2, 3000, .inl f2))]) hD hS hA [0, 1, 2, 3, 4, 5] rfl
    refine va_callv (va_runV (As := [.int a1]) (rest := []) ⟨hx, hb, hml, hown, hts⟩ (vm_spellKind l dC dI H.size h0 zs a1 qf2 qf5 qf6 qf25 qf65 v66 cf65 f65 cf25 f25 cf6 f6 cf5 f5 cf2 f2 nS477 fS477 hS477 qS477 tS477 nf g908_0 u8_1 hlen hf2 hf5 hf6 hf25 hf65 hf66 hu_8) (cwV 1 hts gv_h9_30 rfl rfl rfl (by decide +kernel) ⟨Nat.le_of_ble_eq_true rfl, Nat.le_of_ble_eq_true rfl⟩) ⟨fun a U g mk q => by obtain ⟨q0, q1, qP, qK, qD, qhZWS477, qhZRS477⟩ := q; exact ⟨q0, q1, qP, va_K.moved (u := U) (U := U.calling g mk a) (Vm.Alike.refl U.vm) qK, qD, pz_W.moved (u := U) (U := U.calling g mk a) (Vm.Alike.refl U.vm) qhZWS477, vk_R.same rfl qhZRS477⟩, va_recv hKc hPc (ci := 13) (q0 := 0) rfl rfl, fun U hU hW => ⟨rfl, by rw [hU], by rw [hU]; exact hPc, va_K.moved hW.alike hKc, hDc.weaken (fun _ _ _ _ => trivial), by rw [hU]; exact ((pz_W.moved hW.alike hZWS477).kept hS.2.1).narrow hFc, vk_R.warm hW hZRS477⟩⟩ rfl rfl hl.1 rfl (lv_room (Nat.le_of_ble_eq_true rfl)) dX13_classConstant_7 ⟨Nat.le_of_ble_eq_true rfl, Nat.le_of_ble_eq_true rfl⟩) hS (fun q _ h => hFc q h) hFc ?_
    clear hS
    intro u t H1 locs ht hvm hw hB hz1 hk1 hS
    obtain ⟨z_8, rfl⟩ : ∃ z, z = u := ⟨_, rfl⟩
    obtain ⟨hP1, hK1, hD1⟩ := hB
    rw [ht] at hP1
    have hK1 := va_K.moved hvm.symm hK1
    try dsimp only at hw
    have hPD := va_join (wr := [(qf58, .inl (cf58, 2000, .inl f58)), (qf59, .inl (cf59, 2000, .inl f59)), (qf60, .inl (cf60, 2000, .inl f60)), (qf61, .inl (cf61, 2000, .inl f61)), (qf63, .inl (cf63, 40000, .inl f63))]) (w1 := [(h0, .inr (13, z_8)), (qf65, .inl (cf65, 200, .inl g908_0)), (qf25, .inl (cf25, 400, .inl f25)), (qf6, .inl (cf6, 3002, .inl f6)), (qf5, .inl (cf5, 3002, .inl f5)), (qf2, .inl (cf2, 3000, .inl f2))]) hP hD [0, 1, 2, 3, 4, 5] [6, 7, 8, 9, 10] rfl rfl (by decide) (by decide) hk1 hFc hP1 hD1
    clear hP hD
    obtain ⟨hP, hD⟩ := hPD
    replace hK := (hK.sub (tys' := [(cf58, .int), (cf59, .int), (cf60, .int), (cf61, .int), (cf63, .int)]) [5, 6, 7, 8, 9] rfl).app hK1
    clear hPc hDc hKc hFc hP1 hK1 hD1 hz1 hk1 ht hvm
    generalize H1 = H at hP hS ⊢
    replace hP : va_P (dC, dI) vwCl [(qf58, .inl (cf58, 2000, .inl f58)), (qf59, .inl (cf59, 2000, .inl f59)), (qf60, .inl (cf60, 2000, .inl f60)), (qf61, .inl (cf61, 2000, .inl f61)), (qf63, .inl (cf63, 40000, .inl f63)), (h0, .inr (13, z_8)), (qf65, .inl (cf65, 200, .inl g908_0)), (qf25, .inl (cf25, 400, .inl f25)), (qf6, .inl (cf6, 3002, .inl f6)), (qf5, .inl (cf5, 3002, .inl f5)), (qf2, .inl (cf2, 3000, .inl f2))] H := hP
    replace hD : va_D A [(qf58, .inl (cf58, 2000, .inl f58)), (qf59, .inl (cf59, 2000, .inl f59)), (qf60, .inl (cf60, 2000, .inl f60)), (qf61, .inl (cf61, 2000, .inl f61)), (qf63, .inl (cf63, 40000, .inl f63)), (h0, .inr (13, z_8)), (qf65, .inl (cf65, 200, .inl g908_0)), (qf25, .inl (cf25, 400, .inl f25)), (qf6, .inl (cf6, 3002, .inl f6)), (qf5, .inl (cf5, 3002, .inl f5)), (qf2, .inl (cf2, 3000, .inl f2))] := hD
    replace hK : va_K (dC, dI) vwCl [(cf58, .int), (cf59, .int), (cf60, .int), (cf61, .int), (cf63, .int), (cf65, .int), (cf25, .int), (cf6, .int), (cf5, .int), (cf2, .int)] s := hK
    obtain ⟨hwa_8, hln_8, hre_8, hch_8_66⟩ := hw
    have hfk_8_2 : z_8[2]? = some (.ref qf2) := (hre_8 2 (by decide)).trans (hf2)
    have hfk_8_5 : z_8[5]? = some (.ref qf5) := (hre_8 5 (by decide)).trans (hf5)
    have hfk_8_6 : z_8[6]? = some (.ref qf6) := (hre_8 6 (by decide)).trans (hf6)
    have hfk_8_25 : z_8[25]? = some (.ref qf25) := (hre_8 25 (by decide)).trans (hf25)
    have hfk_8_58 : z_8[58]? = some (.ref qf58) := (hre_8 58 (by decide)).trans (hf58)
    have hfk_8_59 : z_8[59]? = some (.ref qf59) := (hre_8 59 (by decide)).trans (hf59)
    have hfk_8_60 : z_8[60]? = some (.ref qf60) := (hre_8 60 (by decide)).trans (hf60)
    have hfk_8_61 : z_8[61]? = some (.ref qf61) := (hre_8 61 (by decide)).trans (hf61)
    have hfk_8_62 : z_8[62]? = some (.int v62) := (hre_8 62 (by decide)).trans (hf62)
    have hfk_8_63 : z_8[63]? = some (.ref qf63) := (hre_8 63 (by decide)).trans (hf63)
    have hfk_8_64 : z_8[64]? = some (.int v64) := (hre_8 64 (by decide)).trans (hf64)
    have hfk_8_65 : z_8[65]? = some (.ref qf65) := (hre_8 65 (by decide)).trans (hf65)
    have hrq_8 : ∀ j : Nat, j ≠ 62 → j ≠ 64 → j ≠ 66 → z_8[j]? = zs[j]? := fun j g62 g64 g66 => (hre_8 j g66).trans (hrs0 j g62 g64 g66)
    refine lv_goto (tgt := 38) hx hb dX13_classConstant_10 (by decide) ?_
    refine lv_aload_n hx hb dX13_classConstant_38 rfl (lv_at hl 0 rfl) ?_
    refine lv_iconst (v := 3) hx hb dX13_classConstant_39 (by decide) ?_
    refine lv_aload_n hx hb dX13_classConstant_40 rfl (lv_at hl 0 rfl) ?_
    obtain ⟨⟨u9_0, g909_1, g909_2, g909_3, g909_4, g909_5, u9_6, u9_7, u9_8⟩, hu_9, hsp⟩ := ox_bind hsp
    try dsimp only at hsp
    have hPc := hP.sub (ws' := [(h0, .inr (13, z_8)), (qf58, .inl (cf58, 2000, .inl f58)), (qf59, .inl (cf59, 2000, .inl f59)), (qf60, .inl (cf60, 2000, .inl f60)), (qf61, .inl (cf61, 2000, .inl f61)), (qf65, .inl (cf65, 200, .inl g908_0)), (qf63, .inl (cf63, 40000, .inl f63))]) [5, 0, 1, 2, 3, 6, 4] rfl
    have hDc := hD.sub (ws' := [(h0, .inr (13, z_8)), (qf58, .inl (cf58, 2000, .inl f58)), (qf59, .inl (cf59, 2000, .inl f59)), (qf60, .inl (cf60, 2000, .inl f60)), (qf61, .inl (cf61, 2000, .inl f61)), (qf65, .inl (cf65, 200, .inl g908_0)), (qf63, .inl (cf63, 40000, .inl f63))]) [5, 0, 1, 2, 3, 6, 4] (by decide) rfl
    have hKc := hK.sub (tys' := [(cf58, .int), (cf59, .int), (cf60, .int), (cf61, .int), (cf65, .int), (cf63, .int)]) [0, 1, 2, 3, 5, 4] rfl
    have hFc := va_free (wc := [(h0, .inr (13, z_8)), (qf58, .inl (cf58, 2000, .inl f58)), (qf59, .inl (cf59, 2000, .inl f59)), (qf60, .inl (cf60, 2000, .inl f60)), (qf61, .inl (cf61, 2000, .inl f61)), (qf65, .inl (cf65, 200, .inl g908_0)), (qf63, .inl (cf63, 40000, .inl f63))]) hD hS hA [5, 0, 1, 2, 3, 6, 4] rfl
    refine va_calli (va_runV (As := []) (rest := [.int 3, .ref h0]) ⟨hx, hb, hml, hown, hts⟩ (vm_spelling l dC dI H.size h0 z_8 qf58 qf59 qf60 qf61 v62 qf63 v64 qf65 u8_1 cf58 f58 cf59 f59 cf60 f60 cf61 f61 cf65 g908_0 cf63 f63 nf u9_0 g909_1 g909_2 g909_3 g909_4 g909_5 u9_6 u9_7 u9_8 hln_8 hfk_8_58 hfk_8_59 hfk_8_60 hfk_8_61 hfk_8_62 hfk_8_63 hfk_8_64 hfk_8_65 hch_8_66 hu_9) (cwV 0 hts gv_h9_79 rfl rfl rfl (by decide +kernel) ⟨Nat.le_of_ble_eq_true rfl, Nat.le_of_ble_eq_true rfl⟩) ⟨fun a U g mk q => by obtain ⟨q0, q1, qP, qK, qD⟩ := q; exact ⟨q0, q1, qP, va_K.moved (u := U) (U := U.calling g mk a) (Vm.Alike.refl U.vm) qK, qD⟩, va_recv hKc hPc (ci := 13) (q0 := 0) rfl rfl, fun U hU hW => ⟨rfl, by rw [hU], by rw [hU]; exact hPc, va_K.moved hW.alike hKc, hDc.weaken (fun _ _ _ _ => trivial)⟩⟩ rfl rfl hl.1 rfl (lv_room (Nat.le_of_ble_eq_true rfl)) dX13_classConstant_41 ⟨Nat.le_of_ble_eq_true rfl, Nat.le_of_ble_eq_true rfl⟩) hS (fun q _ h => hFc q h) hFc ?_
    clear hS
    intro r_9 u t H1 locs ht hvm hw hB hz1 hk1 hS
    obtain ⟨z_9, rfl⟩ : ∃ z, z = u := ⟨_, rfl⟩
    obtain ⟨hP1, hK1, hD1⟩ := hB
    rw [ht] at hP1
    have hK1 := va_K.moved hvm.symm hK1
    try dsimp only at hw
    have hPD := va_join (wr := [(qf25, .inl (cf25, 400, .inl f25)), (qf6, .inl (cf6, 3002, .inl f6)), (qf5, .inl (cf5, 3002, .inl f5)), (qf2, .inl (cf2, 3000, .inl f2))]) (w1 := [(h0, .inr (13, z_9)), (qf58, .inl (cf58, 2000, .inl g909_1)), (qf59, .inl (cf59, 2000, .inl g909_2)), (qf60, .inl (cf60, 2000, .inl g909_3)), (qf61, .inl (cf61, 2000, .inl g909_4)), (qf65, .inl (cf65, 200, .inl g908_0)), (qf63, .inl (cf63, 40000, .inl g909_5))]) hP hD [5, 0, 1, 2, 3, 6, 4] [7, 8, 9, 10] rfl rfl (by decide) (by decide) hk1 hFc hP1 hD1
    clear hP hD
    obtain ⟨hP, hD⟩ := hPD
    replace hK := (hK.sub (tys' := [(cf25, .int), (cf6, .int), (cf5, .int), (cf2, .int)]) [6, 7, 8, 9] rfl).app hK1
    clear hPc hDc hKc hFc hP1 hK1 hD1 hz1 hk1 ht hvm
    generalize H1 = H at hP hS ⊢
    replace hP : va_P (dC, dI) vwCl [(qf25, .inl (cf25, 400, .inl f25)), (qf6, .inl (cf6, 3002, .inl f6)), (qf5, .inl (cf5, 3002, .inl f5)), (qf2, .inl (cf2, 3000, .inl f2)), (h0, .inr (13, z_9)), (qf58, .inl (cf58, 2000, .inl g909_1)), (qf59, .inl (cf59, 2000, .inl g909_2)), (qf60, .inl (cf60, 2000, .inl g909_3)), (qf61, .inl (cf61, 2000, .inl g909_4)), (qf65, .inl (cf65, 200, .inl g908_0)), (qf63, .inl (cf63, 40000, .inl g909_5))] H := hP
    replace hD : va_D A [(qf25, .inl (cf25, 400, .inl f25)), (qf6, .inl (cf6, 3002, .inl f6)), (qf5, .inl (cf5, 3002, .inl f5)), (qf2, .inl (cf2, 3000, .inl f2)), (h0, .inr (13, z_9)), (qf58, .inl (cf58, 2000, .inl g909_1)), (qf59, .inl (cf59, 2000, .inl g909_2)), (qf60, .inl (cf60, 2000, .inl g909_3)), (qf61, .inl (cf61, 2000, .inl g909_4)), (qf65, .inl (cf65, 200, .inl g908_0)), (qf63, .inl (cf63, 40000, .inl g909_5))] := hD
    replace hK : va_K (dC, dI) vwCl [(cf25, .int), (cf6, .int), (cf5, .int), (cf2, .int), (cf58, .int), (cf59, .int), (cf60, .int), (cf61, .int), (cf65, .int), (cf63, .int)] s := hK
    obtain ⟨hwa_9, hln_9, hre_9, hch_9_62, hch_9_64, hch_9_66⟩ := hw
    have hfk_9_2 : z_9[2]? = some (.ref qf2) := (hre_9 2 (by decide) (by decide) (by decide)).trans (hfk_8_2)
    have hfk_9_5 : z_9[5]? = some (.ref qf5) := (hre_9 5 (by decide) (by decide) (by decide)).trans (hfk_8_5)
    have hfk_9_6 : z_9[6]? = some (.ref qf6) := (hre_9 6 (by decide) (by decide) (by decide)).trans (hfk_8_6)
    have hfk_9_25 : z_9[25]? = some (.ref qf25) := (hre_9 25 (by decide) (by decide) (by decide)).trans (hfk_8_25)
    have hfk_9_58 : z_9[58]? = some (.ref qf58) := (hre_9 58 (by decide) (by decide) (by decide)).trans (hfk_8_58)
    have hfk_9_59 : z_9[59]? = some (.ref qf59) := (hre_9 59 (by decide) (by decide) (by decide)).trans (hfk_8_59)
    have hfk_9_60 : z_9[60]? = some (.ref qf60) := (hre_9 60 (by decide) (by decide) (by decide)).trans (hfk_8_60)
    have hfk_9_61 : z_9[61]? = some (.ref qf61) := (hre_9 61 (by decide) (by decide) (by decide)).trans (hfk_8_61)
    have hfk_9_63 : z_9[63]? = some (.ref qf63) := (hre_9 63 (by decide) (by decide) (by decide)).trans (hfk_8_63)
    have hfk_9_65 : z_9[65]? = some (.ref qf65) := (hre_9 65 (by decide) (by decide) (by decide)).trans (hfk_8_65)
    have hrq_9 : ∀ j : Nat, j ≠ 62 → j ≠ 64 → j ≠ 66 → z_9[j]? = zs[j]? := fun j g62 g64 g66 => (hre_9 j g62 g64 g66).trans (hrq_8 j g62 g64 g66)
    obtain rfl := hwa_9
    refine lv_iconst (v := 0) hx hb dX13_classConstant_44 (by decide) ?_
    refine lv_iconst (v := 0) hx hb dX13_classConstant_45 (by decide) ?_
    obtain ⟨⟨u10_0, g910_1, g910_2, g910_3, g910_4, u10_5⟩, hu_10, hsp⟩ := ox_bind hsp
    try dsimp only at hsp
    have hPc := hP.sub (ws' := [(h0, .inr (13, z_9)), (qf58, .inl (cf58, 2000, .inl g909_1)), (qf59, .inl (cf59, 2000, .inl g909_2)), (qf60, .inl (cf60, 2000, .inl g909_3)), (qf61, .inl (cf61, 2000, .inl g909_4))]) [4, 5, 6, 7, 8] rfl
    have hDc := hD.sub (ws' := [(h0, .inr (13, z_9)), (qf58, .inl (cf58, 2000, .inl g909_1)), (qf59, .inl (cf59, 2000, .inl g909_2)), (qf60, .inl (cf60, 2000, .inl g909_3)), (qf61, .inl (cf61, 2000, .inl g909_4))]) [4, 5, 6, 7, 8] (by decide) rfl
    have hKc := hK.sub (tys' := [(cf58, .int), (cf59, .int), (cf60, .int), (cf61, .int)]) [4, 5, 6, 7] rfl
    have hFc := va_free (wc := [(h0, .inr (13, z_9)), (qf58, .inl (cf58, 2000, .inl g909_1)), (qf59, .inl (cf59, 2000, .inl g909_2)), (qf60, .inl (cf60, 2000, .inl g909_3)), (qf61, .inl (cf61, 2000, .inl g909_4))]) hD hS hA [4, 5, 6, 7, 8] rfl
    refine va_calli (va_runV (As := [.int 3, .int u9_0, .int 0, .int 0]) (rest := []) ⟨hx, hb, hml, hown, hts⟩ (vm_constant l dC dI H.size h0 z_9 3 u9_0 0 0 qf58 qf59 qf60 qf61 u9_6 cf58 g909_1 cf59 g909_2 cf60 g909_3 cf61 g909_4 nf u10_0 g910_1 g910_2 g910_3 g910_4 u10_5 hln_9 hfk_9_58 hfk_9_59 hfk_9_60 hfk_9_61 hch_9_62 hu_10) (cwV 4 hts gv_h9_33 rfl rfl rfl (by decide +kernel) ⟨Nat.le_of_ble_eq_true rfl, Nat.le_of_ble_eq_true rfl⟩) ⟨fun a U g mk q => by obtain ⟨q0, q1, qP, qK, qD⟩ := q; exact ⟨q0, q1, qP, va_K.moved (u := U) (U := U.calling g mk a) (Vm.Alike.refl U.vm) qK, qD⟩, va_recv hKc hPc (ci := 13) (q0 := 0) rfl rfl, fun U hU hW => ⟨rfl, by rw [hU], by rw [hU]; exact hPc, va_K.moved hW.alike hKc, hDc.weaken (fun _ _ _ _ => trivial)⟩⟩ rfl rfl hl.1 rfl (lv_room (Nat.le_of_ble_eq_true rfl)) dX13_classConstant_46 ⟨Nat.le_of_ble_eq_true rfl, Nat.le_of_ble_eq_true rfl⟩) hS (fun q _ h => hFc q h) hFc ?_
    clear hS
    intro r_10 u t H1 locs ht hvm hw hB hz1 hk1 hS
    obtain ⟨z_10, rfl⟩ : ∃ z, z = u := ⟨_, rfl⟩
    obtain ⟨hP1, hK1, hD1⟩ := hB
    rw [ht] at hP1
    have hK1 := va_K.moved hvm.symm hK1
    try dsimp only at hw
    have hPD := va_join (wr := [(qf25, .inl (cf25, 400, .inl f25)), (qf6, .inl (cf6, 3002, .inl f6)), (qf5, .inl (cf5, 3002, .inl f5)), (qf2, .inl (cf2, 3000, .inl f2)), (qf65, .inl (cf65, 200, .inl g908_0)), (qf63, .inl (cf63, 40000, .inl g909_5))]) (w1 := [(h0, .inr (13, z_10)), (qf58, .inl (cf58, 2000, .inl g910_1)), (qf59, .inl (cf59, 2000, .inl g910_2)), (qf60, .inl (cf60, 2000, .inl g910_3)), (qf61, .inl (cf61, 2000, .inl g910_4))]) hP hD [4, 5, 6, 7, 8] [0, 1, 2, 3, 9, 10] rfl rfl (by decide) (by decide) hk1 hFc hP1 hD1
    clear hP hD
    obtain ⟨hP, hD⟩ := hPD
    replace hK := (hK.sub (tys' := [(cf25, .int), (cf6, .int), (cf5, .int), (cf2, .int), (cf65, .int), (cf63, .int)]) [0, 1, 2, 3, 8, 9] rfl).app hK1
    clear hPc hDc hKc hFc hP1 hK1 hD1 hz1 hk1 ht hvm
    generalize H1 = H at hP hS ⊢
    replace hP : va_P (dC, dI) vwCl [(qf25, .inl (cf25, 400, .inl f25)), (qf6, .inl (cf6, 3002, .inl f6)), (qf5, .inl (cf5, 3002, .inl f5)), (qf2, .inl (cf2, 3000, .inl f2)), (qf65, .inl (cf65, 200, .inl g908_0)), (qf63, .inl (cf63, 40000, .inl g909_5)), (h0, .inr (13, z_10)), (qf58, .inl (cf58, 2000, .inl g910_1)), (qf59, .inl (cf59, 2000, .inl g910_2)), (qf60, .inl (cf60, 2000, .inl g910_3)), (qf61, .inl (cf61, 2000, .inl g910_4))] H := hP
    replace hD : va_D A [(qf25, .inl (cf25, 400, .inl f25)), (qf6, .inl (cf6, 3002, .inl f6)), (qf5, .inl (cf5, 3002, .inl f5)), (qf2, .inl (cf2, 3000, .inl f2)), (qf65, .inl (cf65, 200, .inl g908_0)), (qf63, .inl (cf63, 40000, .inl g909_5)), (h0, .inr (13, z_10)), (qf58, .inl (cf58, 2000, .inl g910_1)), (qf59, .inl (cf59, 2000, .inl g910_2)), (qf60, .inl (cf60, 2000, .inl g910_3)), (qf61, .inl (cf61, 2000, .inl g910_4))] := hD
    replace hK : va_K (dC, dI) vwCl [(cf25, .int), (cf6, .int), (cf5, .int), (cf2, .int), (cf65, .int), (cf63, .int), (cf58, .int), (cf59, .int), (cf60, .int), (cf61, .int)] s := hK
    obtain ⟨hwa_10, hln_10, hre_10, hch_10_62⟩ := hw
    have hfk_10_2 : z_10[2]? = some (.ref qf2) := (hre_10 2 (by decide)).trans (hfk_9_2)
    have hfk_10_5 : z_10[5]? = some (.ref qf5) := (hre_10 5 (by decide)).trans (hfk_9_5)
    have hfk_10_6 : z_10[6]? = some (.ref qf6) := (hre_10 6 (by decide)).trans (hfk_9_6)
    have hfk_10_25 : z_10[25]? = some (.ref qf25) := (hre_10 25 (by decide)).trans (hfk_9_25)
    have hfk_10_58 : z_10[58]? = some (.ref qf58) := (hre_10 58 (by decide)).trans (hfk_9_58)
    have hfk_10_59 : z_10[59]? = some (.ref qf59) := (hre_10 59 (by decide)).trans (hfk_9_59)
    have hfk_10_60 : z_10[60]? = some (.ref qf60) := (hre_10 60 (by decide)).trans (hfk_9_60)
    have hfk_10_61 : z_10[61]? = some (.ref qf61) := (hre_10 61 (by decide)).trans (hfk_9_61)
    have hfk_10_63 : z_10[63]? = some (.ref qf63) := (hre_10 63 (by decide)).trans (hfk_9_63)
    have hfk_10_64 : z_10[64]? = some (.int u9_7) := (hre_10 64 (by decide)).trans (hch_9_64)
    have hfk_10_65 : z_10[65]? = some (.ref qf65) := (hre_10 65 (by decide)).trans (hfk_9_65)
    have hfk_10_66 : z_10[66]? = some (.int u9_8) := (hre_10 66 (by decide)).trans (hch_9_66)
    have hrq_10 : ∀ j : Nat, j ≠ 62 → j ≠ 64 → j ≠ 66 → z_10[j]? = zs[j]? := fun j g62 g64 g66 => (hre_10 j g62).trans (hrq_9 j g62 g64 g66)
    obtain rfl := hwa_10
    have hr0 := Option.some.inj hsp
    clear hsp
    obtain ⟨hq0, hr1⟩ := Prod.mk.inj hr0
    clear hr0
    obtain ⟨hq1, hr2⟩ := Prod.mk.inj hr1
    clear hr1
    obtain ⟨hq2, hr3⟩ := Prod.mk.inj hr2
    clear hr2
    obtain ⟨hq3, hr4⟩ := Prod.mk.inj hr3
    clear hr3
    obtain ⟨hq4, hr5⟩ := Prod.mk.inj hr4
    clear hr4
    obtain ⟨hq5, hr6⟩ := Prod.mk.inj hr5
    clear hr5
    obtain ⟨hq6, hr7⟩ := Prod.mk.inj hr6
    clear hr6
    obtain ⟨hq7, hr8⟩ := Prod.mk.inj hr7
    clear hr7
    obtain ⟨hq8, hr9⟩ := Prod.mk.inj hr8
    clear hr8
    subst hq0
    subst hq1
    subst hq2
    subst hq3
    subst hq4
    subst hq5
    subst hq6
    subst hq7
    subst hq8
    subst hr9
    have hP9 := hP.sub (ws' := [(h0, .inr (13, z_10)), (qf65, .inl (cf65, 200, .inl g908_0)), (qf25, .inl (cf25, 400, .inl f25)), (qf6, .inl (cf6, 3002, .inl f6)), (qf5, .inl (cf5, 3002, .inl f5)), (qf2, .inl (cf2, 3000, .inl f2)), (qf58, .inl (cf58, 2000, .inl g910_1)), (qf59, .inl (cf59, 2000, .inl g910_2)), (qf60, .inl (cf60, 2000, .inl g910_3)), (qf61, .inl (cf61, 2000, .inl g910_4)), (qf63, .inl (cf63, 40000, .inl g909_5))]) [6, 4, 0, 1, 2, 3, 7, 8, 9, 10, 5] rfl
    have hD9 := hD.sub (ws' := [(h0, .inr (13, z_10)), (qf65, .inl (cf65, 200, .inl g908_0)), (qf25, .inl (cf25, 400, .inl f25)), (qf6, .inl (cf6, 3002, .inl f6)), (qf5, .inl (cf5, 3002, .inl f5)), (qf2, .inl (cf2, 3000, .inl f2)), (qf58, .inl (cf58, 2000, .inl g910_1)), (qf59, .inl (cf59, 2000, .inl g910_2)), (qf60, .inl (cf60, 2000, .inl g910_3)), (qf61, .inl (cf61, 2000, .inl g910_4)), (qf63, .inl (cf63, 40000, .inl g909_5))]) [6, 4, 0, 1, 2, 3, 7, 8, 9, 10, 5] (by decide) rfl
    have hK9 := hK.sub (tys' := [(cf65, .int), (cf25, .int), (cf6, .int), (cf5, .int), (cf2, .int), (cf58, .int), (cf59, .int), (cf60, .int), (cf61, .int), (cf63, .int)]) [4, 0, 1, 2, 3, 6, 7, 8, 9, 5] rfl
    exact W.iret hx hb hr (fun t ht hW => ⟨⟨(u10_0), (z_10), rfl, ⟨rfl, hln_10, hrq_10, hch_10_62, hfk_10_64, hfk_10_66⟩, by rw [ht]; exact hP9, va_K.moved hW.alike hK9, hD9⟩, hS.F ht⟩) hS.2.2 dX13_classConstant_49
def sp_vm_textOf (nf : Nat) (a1 : Int32) (v62 : Int32) (v64 : Int32) (v66 : Int32) (f6 : Nat → Int32) (f5 : Nat → Int32) (f2 : Nat → Int32) (f65 : Nat → Int32) (f58 : Nat → Int32) (f59 : Nat → Int32) (f60 : Nat → Int32) (f61 : Nat → Int32) (f63 : Nat → Int32) : Option (Int32 × (Nat → Int32) × (Nat → Int32) × (Nat → Int32) × (Nat → Int32) × (Nat → Int32) × (Nat → Int32) × Int32 × Int32 × Int32) := ((sp_tn_spellToken nf a1 v66 f6 f5 f2 f65).bind (fun p1 => ((sp_vm_spelling nf v62 v64 p1.2 f58 f59 f60 f61 p1.1 f63).bind (fun p2 => (some (p2.1, p2.2.1, p2.2.2.1, p2.2.2.2.1, p2.2.2.2.2.1, p2.2.2.2.2.2.1, p1.1, p2.2.2.2.2.2.2.1, p2.2.2.2.2.2.2.2.1, p2.2.2.2.2.2.2.2.2))))))
