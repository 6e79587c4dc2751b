set_option maxHeartbeats 4000000 in
set_option maxRecDepth 100000 in
/-- ClassMillModel.tokenize -/
theorem vm_tokenize (l : Launch) (dC : Nat → ClassId) (dI : Nat → Nat → Nat) (sz : Nat) (h0 : Nat) (zs : (List Value)) (qf2 : Nat) (v3 : Int32) (qf4 : Nat) (qf5 : Nat) (qf6 : Nat) (qf7 : Nat) (v8 : Int32) (cf4 : ClassId) (f4 : (Nat → Int32)) (cf5 : ClassId) (f5 : (Nat → Int32)) (cf6 : ClassId) (f6 : (Nat → Int32)) (cf7 : ClassId) (f7 : (Nat → Int32)) (cf2 : ClassId) (f2 : (Nat → Int32)) (nS352 : Nat) (fS352 : (Nat → Int32)) (hS352 : Nat) (qS352 : Nat) (tS352 : String) (nf : Nat) (o4 : (Nat → Int32)) (o5 : (Nat → Int32)) (o6 : (Nat → Int32)) (o7 : (Nat → Int32)) (w8 : Int32) (hlen : zs.length = 155) (hf2 : zs[2]? = some (.ref qf2)) (hf3 : zs[3]? = some (.int v3)) (hf4 : zs[4]? = some (.ref qf4)) (hf5 : zs[5]? = some (.ref qf5)) (hf6 : zs[6]? = some (.ref qf6)) (hf7 : zs[7]? = some (.ref qf7)) (hf8 : zs[8]? = some (.int v8)) (hsp : sp_vm_tokenize nf v3 f4 f5 f6 f7 f2 nS352 fS352 = some (o4, o5, o6, o7, w8)) : Met l yX13_tokenize (.code yX13_tokenize cX13_tokenize 7 none :: VS_h9) ({ frames := 5, cells := 0, slots := 0, locals := 112 }) (va_Pc [.ref h0] (fun U => U.heap.size = sz ∧ va_P (dC, dI) vwCl [(h0, .inr (13, zs)), (qf4, .inl (cf4, 3008, .inl f4)), (qf5, .inl (cf5, 3002, .inl f5)), (qf6, .inl (cf6, 3002, .inl f6)), (qf7, .inl (cf7, 3002, .inl f7)), (qf2, .inl (cf2, 3000, .inl f2))] U.heap ∧ va_K (dC, dI) vwCl [(cf4, .int), (cf5, .int), (cf6, .int), (cf7, .int), (cf2, .int)] U ∧ va_D (fun _ => True) [(h0, .inr (13, zs)), (qf4, .inl (cf4, 3008, .inl f4)), (qf5, .inl (cf5, 3002, .inl f5)), (qf6, .inl (cf6, 3002, .inl f6)), (qf7, .inl (cf7, 3002, .inl f7)), (qf2, .inl (cf2, 3000, .inl f2))] ∧ pz_W nS352 fS352 hS352 qS352 (va_A [(h0, .inr (13, zs)), (qf4, .inl (cf4, 3008, .inl f4)), (qf5, .inl (cf5, 3002, .inl f5)), (qf6, .inl (cf6, 3002, .inl f6)), (qf7, .inl (cf7, 3002, .inl f7)), (qf2, .inl (cf2, 3000, .inl f2))] sz) U U.heap ∧ vk_R RX13 352 tS352 hS352 U)) (va_Qv (fun (u : (List Value)) => match u with | (zo1) => True ∧ zo1.length = 155 ∧ (∀ j : Nat, j ≠ 8 → zo1[j]? = zs[j]?) ∧ zo1[8]? = some (.int w8)) (fun (u : (List Value)) (t : State) => match u with | (zo1) => va_P (dC, dI) vwCl [(h0, .inr (13, zo1)), (qf4, .inl (cf4, 3008, .inl o4)), (qf5, .inl (cf5, 3002, .inl o5)), (qf6, .inl (cf6, 3002, .inl o6)), (qf7, .inl (cf7, 3002, .inl o7)), (qf2, .inl (cf2, 3000, .inl f2))] t.heap ∧ va_K (dC, dI) vwCl [(cf4, .int), (cf5, .int), (cf6, .int), (cf7, .int), (cf2, .int)] t ∧ va_D (va_A [(h0, .inr (13, zs)), (qf4, .inl (cf4, 3008, .inl f4)), (qf5, .inl (cf5, 3002, .inl f5)), (qf6, .inl (cf6, 3002, .inl f6)), (qf7, .inl (cf7, 3002, .inl f7)), (qf2, .inl (cf2, 3000, .inl f2))] sz) [(h0, .inr (13, zo1)), (qf4, .inl (cf4, 3008, .inl o4)), (qf5, .inl (cf5, 3002, .inl o5)), (qf6, .inl (cf6, 3002, .inl o6)), (qf7, .inl (cf7, 3002, .inl o7)), (qf2, .inl (cf2, 3000, .inl f2))]) (va_A [(h0, .inr (13, zs)), (qf4, .inl (cf4, 3008, .inl f4)), (qf5, .inl (cf5, 3002, .inl f5)), (qf6, .inl (cf6, 3002, .inl f6)), (qf7, .inl (cf7, 3002, .inl f7)), (qf2, .inl (cf2, 3000, .inl f2))] sz)) 0 0 (va_A [(h0, .inr (13, zs)), (qf4, .inl (cf4, 3008, .inl f4)), (qf5, .inl (cf5, 3002, .inl f5)), (qf6, .inl (cf6, 3002, .inl f6)), (qf7, .inl (cf7, 3002, .inl f7)), (qf2, .inl (cf2, 3000, .inl f2))] sz) := by
  refine Met.ofW (cc := cX13_tokenize) (maxL := 7) (ret := none) (by decide) rfl ?_
  intro p e s m args below meth c s₁ B hml hv
  obtain ⟨rfl, hsz, hP, hK, hD0, hZWS352, hZRS352⟩ := hv
  have hx := B.exec
  have hb := B.bytes
  have hr := B.returns
  have hts := atoms_spec (ws := (.code yX13_tokenize cX13_tokenize 7 none :: VS_h9)) B.pre
  replace hts := fun w (h : w ∈ VS_h9) => hts w (List.mem_cons_of_mem _ h)
  have hown : s.vm.findClass RX13 = some m.cls := findClass_of_methodNamed B.named
  have hlocks := B.notSynchronized
  subst hsz
  have hD := hD0.self (sz := s.heap.size)
  generalize hAe : va_A [(h0, .inr (13, zs)), (qf4, .inl (cf4, 3008, .inl f4)), (qf5, .inl (cf5, 3002, .inl f5)), (qf6, .inl (cf6, 3002, .inl f6)), (qf7, .inl (cf7, 3002, .inl f7)), (qf2, .inl (cf2, 3000, .inl f2))] s.heap.size = A at hD hZWS352 ⊢
  have hA : ∀ q : Nat, s.heap.size ≤ q → A q := fun q h => by rw [← hAe]; exact Or.inr h
  have hP : va_P (dC, dI) vwCl [(h0, .inr (13, zs)), (qf4, .inl (cf4, 3008, .inl f4)), (qf5, .inl (cf5, 3002, .inl f5)), (qf6, .inl (cf6, 3002, .inl f6)), (qf7, .inl (cf7, 3002, .inl f7)), (qf2, .inl (cf2, 3000, .inl f2))] s.heap := hP
  have hl := lv_entry ([.ref h0]) (n := 7) (Nat.le_of_ble_eq_true rfl)
  rw [lg_entry_eq]
  generalize (lg_sl ([.ref h0]) ++ List.replicate (7 - (lg_sl ([.ref h0])).length) Slot.unset).toArray = ls at hl ⊢
  have hl : lv_has ls 7 [(0, .ref h0)] := hl
  obtain ⟨H, hH⟩ : ∃ H : Heap, s.heap = H := ⟨_, rfl⟩
  rw [hH] at hP ⊢
  have hS : va_S A s.heap H [] := by rw [← hH]; exact va_S.rf
  obtain ⟨locs, hlo⟩ : ∃ locs : List Loc, locs = [] := ⟨_, rfl⟩
  rw [← hlo] at hS ⊢
  have hrs0 : ∀ j : Nat, j ≠ 8 → zs[j]? = zs[j]? := fun _ _  => rfl
  unfold sp_vm_tokenize at hsp
  refine lv_aload_n hx hb dX13_tokenize_0 rfl (lv_at hl 0 rfl) ?_
  refine lv_iconst (v := 0) hx hb dX13_tokenize_1 (by decide) ?_
  refine va_put (D := (dC, dI)) (ci := 13) (v := .int 0) (ty := .int) (C := RX13) (T := TX13) (N := 155) hx hb hts uV_h9_X13 tyX13 tyX13_ok nmX13 hown hK hP hD hS 0 rfl rfl 8 (by decide) (hts (.fieldLink RX13 338 "ClassMillModel" "tokens" "I") mw_h9_31) (fun _ h9 => h9) rfl (by decide +kernel) rfl rfl (by rw [hlen]; decide) dX13_tokenize_2 ?_
  clear hP hD hS
  intro H locs hP hD hS
  obtain ⟨fs_1, efs_1⟩ : ∃ zf : List Value, zf = zs.set 8 (.int 0) := ⟨_, rfl⟩
  rw [← efs_1] at hP hD
  have hlfs_1 : fs_1.length = 155 := by rw [efs_1, List.length_set]; exact hlen
  have hfs_1_2 : fs_1[2]? = some (.ref qf2) := by rw [efs_1, List.getElem?_set_ne (by decide)]; exact hf2
  have hfs_1_3 : fs_1[3]? = some (.int v3) := by rw [efs_1, List.getElem?_set_ne (by decide)]; exact hf3
  have hfs_1_4 : fs_1[4]? = some (.ref qf4) := by rw [efs_1, List.getElem?_set_ne (by decide)]; exact hf4
  have hfs_1_5 : fs_1[5]? = some (.ref qf5) := by rw [efs_1, List.getElem?_set_ne (by decide)]; exact hf5
  have hfs_1_6 : fs_1[6]? = some (.ref qf6) := by rw [efs_1, List.getElem?_set_ne (by decide)]; exact hf6
  have hfs_1_7 : fs_1[7]? = some (.ref qf7) := by rw [efs_1, List.getElem?_set_ne (by decide)]; exact hf7
  have hfs_1_8 : fs_1[8]? = some (.int 0) := by rw [efs_1, List.getElem?_set_self (by rw [hlen]; decide)]
  replace hP : va_P (dC, dI) vwCl [(h0, .inr (13, fs_1)), (qf4, .inl (cf4, 3008, .inl f4)), (qf5, .inl (cf5, 3002, .inl f5)), (qf6, .inl (cf6, 3002, .inl f6)), (qf7, .inl (cf7, 3002, .inl f7)), (qf2, .inl (cf2, 3000, .inl f2))] H := hP
  replace hD : va_D A [(h0, .inr (13, fs_1)), (qf4, .inl (cf4, 3008, .inl f4)), (qf5, .inl (cf5, 3002, .inl f5)), (qf6, .inl (cf6, 3002, .inl f6)), (qf7, .inl (cf7, 3002, .inl f7)), (qf2, .inl (cf2, 3000, .inl f2))] := hD
  have hrs_2 : ∀ j : Nat, j ≠ 8 → fs_1[j]? = zs[j]? := fun j g8 => ((congrArg (fun z : List Value => z[j]?) efs_1).trans (List.getElem?_set_ne (Ne.symm g8))).trans (hrs0 j g8)
  refine lv_iconst (v := 0) hx hb dX13_tokenize_5 (by decide) ?_
  refine lv_istore_n (lv' := [(1, .int 0), (0, .ref h0)]) hx hb dX13_tokenize_6 rfl hl (by decide) rfl (fun ls hl => ?_)
  replace hl : lv_has ls 7 [(1, .int 0), (0, .ref h0)] := lv_sub hl [0, 1] rfl
  replace hP := hP.sub (ws' := [(h0, .inr (13, fs_1)), (qf4, .inl (cf4, 3008, .inl f4)), (qf5, .inl (cf5, 3002, .inl f5)), (qf6, .inl (cf6, 3002, .inl f6)), (qf7, .inl (cf7, 3002, .inl f7)), (qf2, .inl (cf2, 3000, .inl f2))]) [0, 1, 2, 3, 4, 5] rfl
  replace hD := hD.sub (ws' := [(h0, .inr (13, fs_1)), (qf4, .inl (cf4, 3008, .inl f4)), (qf5, .inl (cf5, 3002, .inl f5)), (qf6, .inl (cf6, 3002, .inl f6)), (qf7, .inl (cf7, 3002, .inl f7)), (qf2, .inl (cf2, 3000, .inl f2))]) [0, 1, 2, 3, 4, 5] (by decide) rfl
  replace hK := hK.sub (tys' := [(cf4, .int), (cf5, .int), (cf6, .int), (cf7, .int), (cf2, .int)]) [0, 1, 2, 3, 4] rfl
  obtain ⟨n_7, hn_7⟩ : ∃ z : Nat, z = nf := ⟨_, rfl⟩
  obtain ⟨l1_7, el1_7⟩ : ∃ z : Int32, z = 0 := ⟨_, rfl⟩
  obtain ⟨g4_7, eg4_7⟩ : ∃ z : Nat → Int32, z = f4 := ⟨_, rfl⟩
  obtain ⟨g5_7, eg5_7⟩ : ∃ z : Nat → Int32, z = f5 := ⟨_, rfl⟩
  obtain ⟨g6_7, eg6_7⟩ : ∃ z : Nat → Int32, z = f6 := ⟨_, rfl⟩
  obtain ⟨g7_7, eg7_7⟩ : ∃ z : Nat → Int32, z = f7 := ⟨_, rfl⟩
  obtain ⟨x8_7, ex8_7⟩ : ∃ z : Int32, z = 0 := ⟨_, rfl⟩
  replace hsp : lp_vm_tokenize_7 nf n_7 v3 f4 f5 f6 f7 f2 nS352 fS352 l1_7 g4_7 g5_7 g6_7 g7_7 x8_7 = some (o4, o5, o6, o7, w8) := by rw [hn_7, el1_7, eg4_7, eg5_7, eg6_7, eg7_7, ex8_7]; exact hsp
  replace hl : lv_has ls 7 [(1, .int l1_7), (0, .ref h0)] := by rw [el1_7]; exact hl
  obtain ⟨z7, ez7⟩ : ∃ z : List Value, z = fs_1 := ⟨_, rfl⟩
  have hfh_7_2 : z7[2]? = some (.ref qf2) := by rw [ez7]; exact hfs_1_2
  have hfh_7_3 : z7[3]? = some (.int v3) := by rw [ez7]; exact hfs_1_3
  have hfh_7_4 : z7[4]? = some (.ref qf4) := by rw [ez7]; exact hfs_1_4
  have hfh_7_5 : z7[5]? = some (.ref qf5) := by rw [ez7]; exact hfs_1_5
  have hfh_7_6 : z7[6]? = some (.ref qf6) := by rw [ez7]; exact hfs_1_6
  have hfh_7_7 : z7[7]? = some (.ref qf7) := by rw [ez7]; exact hfs_1_7
  have hfh_7_8 : z7[8]? = some (.int x8_7) := by rw [ez7, ex8_7]; exact hfs_1_8
  have hlh_7 : z7.length = 155 := by rw [ez7]; exact hlfs_1
  have hrh_7 : ∀ j : Nat, j ≠ 8 → z7[j]? = zs[j]? := by rw [ez7]; exact hrs_2
  replace hP : va_P (dC, dI) vwCl [(h0, .inr (13, z7)), (qf4, .inl (cf4, 3008, .inl g4_7)), (qf5, .inl (cf5, 3002, .inl g5_7)), (qf6, .inl (cf6, 3002, .inl g6_7)), (qf7, .inl (cf7, 3002, .inl g7_7)), (qf2, .inl (cf2, 3000, .inl f2))] H := by rw [ez7, eg4_7, eg5_7, eg6_7, eg7_7]; exact hP
  replace hD : va_D A [(h0, .inr (13, z7)), (qf4, .inl (cf4, 3008, .inl g4_7)), (qf5, .inl (cf5, 3002, .inl g5_7)), (qf6, .inl (cf6, 3002, .inl g6_7)), (qf7, .inl (cf7, 3002, .inl g7_7)), (qf2, .inl (cf2, 3000, .inl f2))] := by rw [ez7, eg4_7, eg5_7, eg6_7, eg7_7]; exact hD
  clear hn_7 ez7 el1_7 eg4_7 eg5_7 eg6_7 eg7_7 ex8_7
  try clear hlo
  try clear hH
  revert hsp
  revert hP
  revert hD
  revert hS
  revert hl
  revert hrh_7
  revert hlh_7
  revert hfh_7_8
  revert hfh_7_7
  revert hfh_7_6
  revert hfh_7_5
  revert hfh_7_4
  revert hfh_7_3
  revert hfh_7_2
  revert x8_7
  revert g7_7
  revert g6_7
  revert g5_7
  revert g4_7
  revert l1_7
  revert z7
  revert ls
  revert locs
  revert H
  induction n_7 with
  | zero => intro H locs ls z7 l1_7 g4_7 g5_7 g6_7 g7_7 x8_7 hfh_7_2 hfh_7_3 hfh_7_4 hfh_7_5 hfh_7_6 hfh_7_7 hfh_7_8 hlh_7 hrh_7 hl hS hD hP hsp; unfold lp_vm_tokenize_7 at hsp; cases hsp
  | succ n_7 ih_7 =>
    intro H locs ls z7 l1_7 g4_7 g5_7 g6_7 g7_7 x8_7 hfh_7_2 hfh_7_3 hfh_7_4 hfh_7_5 hfh_7_6 hfh_7_7 hfh_7_8 hlh_7 hrh_7 hl hS hD hP hsp
    unfold lp_vm_tokenize_7 at hsp
    try dsimp only at hsp
    refine jn_use (α := Heap × List Loc × Array Slot × List Value × Int32 × Int32 × (Nat → Int32) × (Nat → Int32) × (Nat → Int32) × (Nat → Int32) × Int32) (fun x9 => x9.1) (fun x9 => x9.2.1) (fun x9 => F0 m 378 x9.2.2.1 []) (fun x9 => match x9 with | (H, locs, ls, z378, l1_378, l3_378, g4_378, g5_378, g6_378, g7_378, x8_378) => lv_has ls 7 [(0, .ref h0), (1, .int l1_378), (3, .int l3_378)] ∧ va_S A s.heap H locs ∧ va_D A [(h0, .inr (13, z378)), (qf4, .inl (cf4, 3008, .inl g4_378)), (qf5, .inl (cf5, 3002, .inl g5_378)), (qf6, .inl (cf6, 3002, .inl g6_378)), (qf7, .inl (cf7, 3002, .inl g7_378)), (qf2, .inl (cf2, 3000, .inl f2))] ∧ va_P (dC, dI) vwCl [(h0, .inr (13, z378)), (qf4, .inl (cf4, 3008, .inl g4_378)), (qf5, .inl (cf5, 3002, .inl g5_378)), (qf6, .inl (cf6, 3002, .inl g6_378)), (qf7, .inl (cf7, 3002, .inl g7_378)), (qf2, .inl (cf2, 3000, .inl f2))] H ∧ z378[2]? = some (.ref qf2) ∧ z378[3]? = some (.int v3) ∧ z378[4]? = some (.ref qf4) ∧ z378[5]? = some (.ref qf5) ∧ z378[6]? = some (.ref qf6) ∧ z378[7]? = some (.ref qf7) ∧ z378[8]? = some (.int x8_378) ∧ z378.length = 155 ∧ (∀ j : Nat, j ≠ 8 → z378[j]? = zs[j]?) ∧ jn_vm_tokenize_378 nf v3 f4 f5 f6 f7 f2 nS352 fS352 (lp_vm_tokenize_7 nf n_7 v3 f4 f5 f6 f7 f2 nS352 fS352) l1_378 l3_378 g4_378 g5_378 g6_378 g7_378 x8_378 = some (o4, o5, o6, o7, w8)) ?_ ?_
    · intro x9 hJ9
      obtain ⟨H, locs, ls, z378, l1_378, l3_378, g4_378, g5_378, g6_378, g7_378, x8_378⟩ := x9
      obtain ⟨hl, hS, hD, hP, hfh_378_2, hfh_378_3, hfh_378_4, hfh_378_5, hfh_378_6, hfh_378_7, hfh_378_8, hlh_378, hrh_378, hsp⟩ := hJ9
      replace hl : lv_has ls 7 [(0, .ref h0), (1, .int l1_378), (3, .int l3_378)] := hl
      replace hS : va_S A s.heap H locs := hS
      replace hD : va_D A [(h0, .inr (13, z378)), (qf4, .inl (cf4, 3008, .inl g4_378)), (qf5, .inl (cf5, 3002, .inl g5_378)), (qf6, .inl (cf6, 3002, .inl g6_378)), (qf7, .inl (cf7, 3002, .inl g7_378)), (qf2, .inl (cf2, 3000, .inl f2))] := hD
      replace hP : va_P (dC, dI) vwCl [(h0, .inr (13, z378)), (qf4, .inl (cf4, 3008, .inl g4_378)), (qf5, .inl (cf5, 3002, .inl g5_378)), (qf6, .inl (cf6, 3002, .inl g6_378)), (qf7, .inl (cf7, 3002, .inl g7_378)), (qf2, .inl (cf2, 3000, .inl f2))] H := hP
      replace hsp : jn_vm_tokenize_378 nf v3 f4 f5 f6 f7 f2 nS352 fS352 (lp_vm_tokenize_7 nf n_7 v3 f4 f5 f6 f7 f2 nS352 fS352) l1_378 l3_378 g4_378 g5_378 g6_378 g7_378 x8_378 = some (o4, o5, o6, o7, w8) := hsp
      show W _ _ _ _ _ _ _ _ _ _ H locs _ _ _ (F0 m 378 ls [])
      unfold jn_vm_tokenize_378 at hsp
      try dsimp only at hsp
      refine lv_aload_n hx hb dX13_tokenize_378 rfl (lv_at hl 0 rfl) ?_
      refine va_get (D := (dC, dI)) (ci := 13) (v := .ref qf4) (C := RX13) (T := TX13) (N := 155) hx hb hts uV_h9_X13 hown hK hP 0 rfl rfl 4 (by decide) (hts (.fieldLink RX13 16 "ClassMillModel" "kind" "[I") mw_h9_32) (fun _ h9 => h9) hfh_378_4 dX13_tokenize_379 ?_
      refine lv_aload_n hx hb dX13_tokenize_382 rfl (lv_at hl 0 rfl) ?_
      refine va_get (D := (dC, dI)) (ci := 13) (v := .int x8_378) (C := RX13) (T := TX13) (N := 155) hx hb hts uV_h9_X13 hown hK hP 0 rfl rfl 8 (by decide) (hts (.fieldLink RX13 338 "ClassMillModel" "tokens" "I") mw_h9_31) (fun _ h9 => h9) hfh_378_8 dX13_tokenize_383 ?_
      refine lv_iconst (v := 1) hx hb dX13_tokenize_386 (by decide) ?_
      refine lv_isub hx hb dX13_tokenize_387 ?_
      obtain ⟨hi_54, hsp⟩ := ox_in hsp
      refine va_iald hx hb hK hP 1 0 rfl rfl (i := (x8_378 - 1)) hi_54 dX13_tokenize_388 ?_
      refine lv_bipush (v := 6) hx hb dX13_tokenize_389 (by decide) ?_
      refine lv_icmp_ne (tgt := 426) hx hb dX13_tokenize_391 (by decide) (fun c_55 => ?_) (fun c_55 => ?_)
      · rw [if_neg c_55] at hsp
        refine lv_iload_n hx hb dX13_tokenize_426 rfl (lv_at hl 1 rfl) ?_
        refine lv_iload_n hx hb dX13_tokenize_427 rfl (lv_at hl 2 rfl) ?_
        refine lv_iadd hx hb dX13_tokenize_428 ?_
        refine lv_istore_n (lv' := [(1, .int (l1_378 + l3_378)), (0, .ref h0), (3, .int l3_378)]) hx hb dX13_tokenize_429 rfl hl (by decide) rfl (fun ls hl => ?_)
        refine lv_goto (tgt := 7) hx hb dX13_tokenize_430 (by decide) ?_
        exact ih_7 H locs ls z378 (l1_378 + l3_378) g4_378 g5_378 g6_378 g7_378 x8_378 (hfh_378_2) (hfh_378_3) (hfh_378_4) (hfh_378_5) (hfh_378_6) (hfh_378_7) (hfh_378_8) hlh_378 hrh_378 (lv_sub hl [0, 1] rfl) hS (hD.sub (ws' := [(h0, .inr (13, z378)), (qf4, .inl (cf4, 3008, .inl g4_378)), (qf5, .inl (cf5, 3002, .inl g5_378)), (qf6, .inl (cf6, 3002, .inl g6_378)), (qf7, .inl (cf7, 3002, .inl g7_378)), (qf2, .inl (cf2, 3000, .inl f2))]) [0, 1, 2, 3, 4, 5] (by decide) rfl) (hP.sub (ws' := [(h0, .inr (13, z378)), (qf4, .inl (cf4, 3008, .inl g4_378)), (qf5, .inl (cf5, 3002, .inl g5_378)), (qf6, .inl (cf6, 3002, .inl g6_378)), (qf7, .inl (cf7, 3002, .inl g7_378)), (qf2, .inl (cf2, 3000, .inl f2))]) [0, 1, 2, 3, 4, 5] rfl) hsp
      · rw [if_pos c_55] at hsp
        refine lv_aload_n hx hb dX13_tokenize_394 rfl (lv_at hl 0 rfl) ?_
        refine va_get (D := (dC, dI)) (ci := 13) (v := .int x8_378) (C := RX13) (T := TX13) (N := 155) hx hb hts uV_h9_X13 hown hK hP 0 rfl rfl 8 (by decide) (hts (.fieldLink RX13 338 "ClassMillModel" "tokens" "I") mw_h9_31) (fun _ h9 => h9) hfh_378_8 dX13_tokenize_395 ?_
        refine lv_istore (lv' := [(4, .int x8_378), (0, .ref h0), (1, .int l1_378), (3, .int l3_378)]) hx hb dX13_tokenize_398 hl (by decide) rfl (fun ls hl => ?_)
        replace hl : lv_has ls 7 [(4, .int x8_378), (0, .ref h0)] := lv_sub hl [0, 1] rfl
        replace hP := hP.sub (ws' := [(h0, .inr (13, z378)), (qf4, .inl (cf4, 3008, .inl g4_378)), (qf5, .inl (cf5, 3002, .inl g5_378)), (qf6, .inl (cf6, 3002, .inl g6_378)), (qf7, .inl (cf7, 3002, .inl g7_378)), (qf2, .inl (cf2, 3000, .inl f2))]) [0, 1, 2, 3, 4, 5] rfl
        replace hD := hD.sub (ws' := [(h0, .inr (13, z378)), (qf4, .inl (cf4, 3008, .inl g4_378)), (qf5, .inl (cf5, 3002, .inl g5_378)), (qf6, .inl (cf6, 3002, .inl g6_378)), (qf7, .inl (cf7, 3002, .inl g7_378)), (qf2, .inl (cf2, 3000, .inl f2))]) [0, 1, 2, 3, 4, 5] (by decide) rfl
        replace hK := hK.sub (tys' := [(cf4, .int), (cf5, .int), (cf6, .int), (cf7, .int), (cf2, .int)]) [0, 1, 2, 3, 4] rfl
        obtain ⟨n_400, hn_400⟩ : ∃ z : Nat, z = nf := ⟨_, rfl⟩
        obtain ⟨l4_400, el4_400⟩ : ∃ z : Int32, z = x8_378 := ⟨_, rfl⟩
        obtain ⟨g4_400, eg4_400⟩ : ∃ z : Nat → Int32, z = g4_378 := ⟨_, rfl⟩
        obtain ⟨g5_400, eg5_400⟩ : ∃ z : Nat → Int32, z = g5_378 := ⟨_, rfl⟩
        obtain ⟨g6_400, eg6_400⟩ : ∃ z : Nat → Int32, z = g6_378 := ⟨_, rfl⟩
        obtain ⟨g7_400, eg7_400⟩ : ∃ z : Nat → Int32, z = g7_378 := ⟨_, rfl⟩
        obtain ⟨x8_400, ex8_400⟩ : ∃ z : Int32, z = x8_378 := ⟨_, rfl⟩
        replace hsp : lp_vm_tokenize_400 nf n_400 v3 f4 f5 f6 f7 f2 nS352 fS352 l4_400 g4_400 g5_400 g6_400 g7_400 x8_400 = some (o4, o5, o6, o7, w8) := by rw [hn_400, el4_400, eg4_400, eg5_400, eg6_400, eg7_400, ex8_400]; exact hsp
        replace hl : lv_has ls 7 [(4, .int l4_400), (0, .ref h0)] := by rw [el4_400]; exact hl
        obtain ⟨z400, ez400⟩ : ∃ z : List Value, z = z378 := ⟨_, rfl⟩
        have hfh_400_2 : z400[2]? = some (.ref qf2) := by rw [ez400]; exact hfh_378_2
        have hfh_400_3 : z400[3]? = some (.int v3) := by rw [ez400]; exact hfh_378_3
        have hfh_400_4 : z400[4]? = some (.ref qf4) := by rw [ez400]; exact hfh_378_4
        have hfh_400_5 : z400[5]? = some (.ref qf5) := by rw [ez400]; exact hfh_378_5
        have hfh_400_6 : z400[6]? = some (.ref qf6) := by rw [ez400]; exact hfh_378_6
        have hfh_400_7 : z400[7]? = some (.ref qf7) := by rw [ez400]; exact hfh_378_7
        have hfh_400_8 : z400[8]? = some (.int x8_400) := by rw [ez400, ex8_400]; exact hfh_378_8
        have hlh_400 : z400.length = 155 := by rw [ez400]; exact hlh_378
        have hrh_400 : ∀ j : Nat, j ≠ 8 → z400[j]? = zs[j]? := by rw [ez400]; exact hrh_378
        replace hP : va_P (dC, dI) vwCl [(h0, .inr (13, z400)), (qf4, .inl (cf4, 3008, .inl g4_400)), (qf5, .inl (cf5, 3002, .inl g5_400)), (qf6, .inl (cf6, 3002, .inl g6_400)), (qf7, .inl (cf7, 3002, .inl g7_400)), (qf2, .inl (cf2, 3000, .inl f2))] H := by rw [ez400, eg4_400, eg5_400, eg6_400, eg7_400]; exact hP
        replace hD : va_D A [(h0, .inr (13, z400)), (qf4, .inl (cf4, 3008, .inl g4_400)), (qf5, .inl (cf5, 3002, .inl g5_400)), (qf6, .inl (cf6, 3002, .inl g6_400)), (qf7, .inl (cf7, 3002, .inl g7_400)), (qf2, .inl (cf2, 3000, .inl f2))] := by rw [ez400, eg4_400, eg5_400, eg6_400, eg7_400]; exact hD
        clear hn_400 ez400 el4_400 eg4_400 eg5_400 eg6_400 eg7_400 ex8_400
        try clear hlo
        try clear hH
        revert hsp
        revert hP
        revert hD
        revert hS
        revert hl
        revert hrh_400
        revert hlh_400
        revert hfh_400_8
        revert hfh_400_7
        revert hfh_400_6
        revert hfh_400_5
        revert hfh_400_4
        revert hfh_400_3
        revert hfh_400_2
        revert x8_400
        revert g7_400
        revert g6_400
        revert g5_400
        revert g4_400
        revert l4_400
        revert z400
        revert ls
        revert locs
        revert H
        induction n_400 with
        | zero => intro H locs ls z400 l4_400 g4_400 g5_400 g6_400 g7_400 x8_400 hfh_400_2 hfh_400_3 hfh_400_4 hfh_400_5 hfh_400_6 hfh_400_7 hfh_400_8 hlh_400 hrh_400 hl hS hD hP hsp; unfold lp_vm_tokenize_400 at hsp; cases hsp
        | succ n_400 ih_400 =>
          intro H locs ls z400 l4_400 g4_400 g5_400 g6_400 g7_400 x8_400 hfh_400_2 hfh_400_3 hfh_400_4 hfh_400_5 hfh_400_6 hfh_400_7 hfh_400_8 hlh_400 hrh_400 hl hS hD hP hsp
          unfold lp_vm_tokenize_400 at hsp
          try dsimp only at hsp
          refine lv_iload hx hb dX13_tokenize_400 (lv_at hl 0 rfl) ?_
          refine lv_aload_n hx hb dX13_tokenize_402 rfl (lv_at hl 1 rfl) ?_
          refine va_get (D := (dC, dI)) (ci := 13) (v := .int x8_400) (C := RX13) (T := TX13) (N := 155) hx hb hts uV_h9_X13 hown hK hP 0 rfl rfl 8 (by decide) (hts (.fieldLink RX13 338 "ClassMillModel" "tokens" "I") mw_h9_31) (fun _ h9 => h9) hfh_400_8 dX13_tokenize_403 ?_
          refine lv_iconst (v := 4) hx hb dX13_tokenize_406 (by decide) ?_
          refine lv_iadd hx hb dX13_tokenize_407 ?_
          refine lv_icmp_ge (tgt := 425) hx hb dX13_tokenize_408 (by decide) (fun c_56 => ?_) (fun c_56 => ?_)
          · rw [if_pos c_56] at hsp
            have hr0 := Option.some.inj hsp
            clear hsp
            obtain ⟨hq0, hr1⟩ := Prod.mk.inj hr0
            clear hr0
            obtain ⟨hq1, hr2⟩ := Prod.mk.inj hr1
            clear hr1
            obtain ⟨hq2, hr3⟩ := Prod.mk.inj hr2
            clear hr2
            obtain ⟨hq3, hr4⟩ := Prod.mk.inj hr3
            clear hr3
            subst hq0
            subst hq1
            subst hq2
            subst hq3
            subst hr4
            have hP9 := hP.sub (ws' := [(h0, .inr (13, z400)), (qf4, .inl (cf4, 3008, .inl g4_400)), (qf5, .inl (cf5, 3002, .inl g5_400)), (qf6, .inl (cf6, 3002, .inl g6_400)), (qf7, .inl (cf7, 3002, .inl g7_400)), (qf2, .inl (cf2, 3000, .inl f2))]) [0, 1, 2, 3, 4, 5] rfl
            have hD9 := hD.sub (ws' := [(h0, .inr (13, z400)), (qf4, .inl (cf4, 3008, .inl g4_400)), (qf5, .inl (cf5, 3002, .inl g5_400)), (qf6, .inl (cf6, 3002, .inl g6_400)), (qf7, .inl (cf7, 3002, .inl g7_400)), (qf2, .inl (cf2, 3000, .inl f2))]) [0, 1, 2, 3, 4, 5] (by decide) rfl
            have hK9 := hK.sub (tys' := [(cf4, .int), (cf5, .int), (cf6, .int), (cf7, .int), (cf2, .int)]) [0, 1, 2, 3, 4] rfl
            exact W.vret hx hb hr (fun t ht hW => ⟨⟨(z400), rfl, ⟨trivial, hlh_400, hrh_400, hfh_400_8⟩, by rw [ht]; exact hP9, va_K.moved hW.alike hK9, hD9⟩, hS.F ht⟩) hS.2.2 dX13_tokenize_425
          · rw [if_neg c_56] at hsp
            refine lv_aload_n hx hb dX13_tokenize_411 rfl (lv_at hl 1 rfl) ?_
            refine va_get (D := (dC, dI)) (ci := 13) (v := .ref qf4) (C := RX13) (T := TX13) (N := 155) hx hb hts uV_h9_X13 hown hK hP 0 rfl rfl 4 (by decide) (hts (.fieldLink RX13 16 "ClassMillModel" "kind" "[I") mw_h9_32) (fun _ h9 => h9) hfh_400_4 dX13_tokenize_412 ?_
            refine lv_iload hx hb dX13_tokenize_415 (lv_at hl 0 rfl) ?_
            refine lv_iconst (v := 5) hx hb dX13_tokenize_417 (by decide) ?_
            obtain ⟨hi_57, hsp⟩ := ox_in hsp
            refine va_iast hx hb hK hP hD hS 1 0 rfl rfl (i := l4_400) (x := 5) hi_57 dX13_tokenize_418 ?_
            clear hP hD hS
            intro H locs hP hD hS
            replace hP : va_P (dC, dI) vwCl [(h0, .inr (13, z400)), (qf4, .inl (cf4, 3008, .inl (upd g4_400 (l4_400 : Int32).toNatClampNeg 5))), (qf5, .inl (cf5, 3002, .inl g5_400)), (qf6, .inl (cf6, 3002, .inl g6_400)), (qf7, .inl (cf7, 3002, .inl g7_400)), (qf2, .inl (cf2, 3000, .inl f2))] H := hP
            replace hD : va_D A [(h0, .inr (13, z400)), (qf4, .inl (cf4, 3008, .inl (upd g4_400 (l4_400 : Int32).toNatClampNeg 5))), (qf5, .inl (cf5, 3002, .inl g5_400)), (qf6, .inl (cf6, 3002, .inl g6_400)), (qf7, .inl (cf7, 3002, .inl g7_400)), (qf2, .inl (cf2, 3000, .inl f2))] := hD
            refine lv_iinc (v := (l4_400 + 1)) (lv' := [(4, .int (l4_400 + 1)), (0, .ref h0)]) hx hb dX13_tokenize_419 hl (k := 0) rfl rfl (by decide) rfl (fun ls hl => ?_)
            refine lv_goto (tgt := 400) hx hb dX13_tokenize_422 (by decide) ?_
            exact ih_400 H locs ls z400 (l4_400 + 1) (upd g4_400 (l4_400 : Int32).toNatClampNeg 5) g5_400 g6_400 g7_400 x8_400 (hfh_400_2) (hfh_400_3) (hfh_400_4) (hfh_400_5) (hfh_400_6) (hfh_400_7) (hfh_400_8) hlh_400 hrh_400 (lv_sub hl [0, 1] rfl) hS (hD.sub (ws' := [(h0, .inr (13, z400)), (qf4, .inl (cf4, 3008, .inl (upd g4_400 (l4_400 : Int32).toNatClampNeg 5))), (qf5, .inl (cf5, 3002, .inl g5_400)), (qf6, .inl (cf6, 3002, .inl g6_400)), (qf7, .inl (cf7, 3002, .inl g7_400)), (qf2, .inl (cf2, 3000, .inl f2))]) [0, 1, 2, 3, 4, 5] (by decide) rfl) (hP.sub (ws' := [(h0, .inr (13, z400)), (qf4, .inl (cf4, 3008, .inl (upd g4_400 (l4_400 : Int32).toNatClampNeg 5))), (qf5, .inl (cf5, 3002, .inl g5_400)), (qf6, .inl (cf6, 3002, .inl g6_400)), (qf7, .inl (cf7, 3002, .inl g7_400)), (qf2, .inl (cf2, 3000, .inl f2))]) [0, 1, 2, 3, 4, 5] rfl) hsp
    intro hj_378
    refine jn_use (α := Heap × List Loc × Array Slot × List Value × Int32 × Int32 × Int32 × Int32 × (Nat → Int32) × (Nat → Int32) × (Nat → Int32) × (Nat → Int32) × Int32) (fun x9 => x9.1) (fun x9 => x9.2.1) (fun x9 => F0 m 371 x9.2.2.1 [.int (x9.2.2.2.2.2.2.2.1), .ref h0]) (fun x9 => match x9 with | (H, locs, ls, z371, l1_371, l3_371, l4_371, s0_371, g4_371, g5_371, g6_371, g7_371, x8_371) => lv_has ls 7 [(0, .ref h0), (1, .int l1_371), (3, .int l3_371), (4, .int l4_371)] ∧ va_S A s.heap H locs ∧ va_D A [(h0, .inr (13, z371)), (qf4, .inl (cf4, 3008, .inl g4_371)), (qf5, .inl (cf5, 3002, .inl g5_371)), (qf6, .inl (cf6, 3002, .inl g6_371)), (qf7, .inl (cf7, 3002, .inl g7_371)), (qf2, .inl (cf2, 3000, .inl f2))] ∧ va_P (dC, dI) vwCl [(h0, .inr (13, z371)), (qf4, .inl (cf4, 3008, .inl g4_371)), (qf5, .inl (cf5, 3002, .inl g5_371)), (qf6, .inl (cf6, 3002, .inl g6_371)), (qf7, .inl (cf7, 3002, .inl g7_371)), (qf2, .inl (cf2, 3000, .inl f2))] H ∧ z371[2]? = some (.ref qf2) ∧ z371[3]? = some (.int v3) ∧ z371[4]? = some (.ref qf4) ∧ z371[5]? = some (.ref qf5) ∧ z371[6]? = some (.ref qf6) ∧ z371[7]? = some (.ref qf7) ∧ z371[8]? = some (.int x8_371) ∧ z371.length = 155 ∧ (∀ j : Nat, j ≠ 8 → z371[j]? = zs[j]?) ∧ jn_vm_tokenize_371 nf v3 f4 f5 f6 f7 f2 nS352 fS352 (lp_vm_tokenize_7 nf n_7 v3 f4 f5 f6 f7 f2 nS352 fS352) l1_371 l3_371 l4_371 s0_371 g4_371 g5_371 g6_371 g7_371 x8_371 = some (o4, o5, o6, o7, w8)) ?_ ?_
    · intro x9 hJ9
      obtain ⟨H, locs, ls, z371, l1_371, l3_371, l4_371, s0_371, g4_371, g5_371, g6_371, g7_371, x8_371⟩ := x9
      obtain ⟨hl, hS, hD, hP, hfh_371_2, hfh_371_3, hfh_371_4, hfh_371_5, hfh_371_6, hfh_371_7, hfh_371_8, hlh_371, hrh_371, hsp⟩ := hJ9
      replace hl : lv_has ls 7 [(0, .ref h0), (1, .int l1_371), (3, .int l3_371), (4, .int l4_371)] := hl
      replace hS : va_S A s.heap H locs := hS
      replace hD : va_D A [(h0, .inr (13, z371)), (qf4, .inl (cf4, 3008, .inl g4_371)), (qf5, .inl (cf5, 3002, .inl g5_371)), (qf6, .inl (cf6, 3002, .inl g6_371)), (qf7, .inl (cf7, 3002, .inl g7_371)), (qf2, .inl (cf2, 3000, .inl f2))] := hD
      replace hP : va_P (dC, dI) vwCl [(h0, .inr (13, z371)), (qf4, .inl (cf4, 3008, .inl g4_371)), (qf5, .inl (cf5, 3002, .inl g5_371)), (qf6, .inl (cf6, 3002, .inl g6_371)), (qf7, .inl (cf7, 3002, .inl g7_371)), (qf2, .inl (cf2, 3000, .inl f2))] H := hP
      replace hsp : jn_vm_tokenize_371 nf v3 f4 f5 f6 f7 f2 nS352 fS352 (lp_vm_tokenize_7 nf n_7 v3 f4 f5 f6 f7 f2 nS352 fS352) l1_371 l3_371 l4_371 s0_371 g4_371 g5_371 g6_371 g7_371 x8_371 = some (o4, o5, o6, o7, w8) := hsp
      show W _ _ _ _ _ _ _ _ _ _ H locs _ _ _ (F0 m 371 ls [.int s0_371, .ref h0])
      unfold jn_vm_tokenize_371 at hsp
      try dsimp only at hsp
      refine lv_iload_n hx hb dX13_tokenize_371 rfl (lv_at hl 1 rfl) ?_
      refine lv_iload_n hx hb dX13_tokenize_372 rfl (lv_at hl 2 rfl) ?_
      refine lv_iload hx hb dX13_tokenize_373 (lv_at hl 3 rfl) ?_
      obtain ⟨⟨g920_0, g920_1, g920_2, g920_3, u20_4⟩, hu_20, hsp⟩ := ox_bind hsp
      try dsimp only at hsp
      have hPc := hP.sub (ws' := [(h0, .inr (13, z371)), (qf4, .inl (cf4, 3008, .inl g4_371)), (qf5, .inl (cf5, 3002, .inl g5_371)), (qf6, .inl (cf6, 3002, .inl g6_371)), (qf7, .inl (cf7, 3002, .inl g7_371))]) [0, 1, 2, 3, 4] rfl
      have hDc := hD.sub (ws' := [(h0, .inr (13, z371)), (qf4, .inl (cf4, 3008, .inl g4_371)), (qf5, .inl (cf5, 3002, .inl g5_371)), (qf6, .inl (cf6, 3002, .inl g6_371)), (qf7, .inl (cf7, 3002, .inl g7_371))]) [0, 1, 2, 3, 4] (by decide) rfl
      have hKc := hK.sub (tys' := [(cf4, .int), (cf5, .int), (cf6, .int), (cf7, .int)]) [0, 1, 2, 3] rfl
      have hFc := va_free (wc := [(h0, .inr (13, z371)), (qf4, .inl (cf4, 3008, .inl g4_371)), (qf5, .inl (cf5, 3002, .inl g5_371)), (qf6, .inl (cf6, 3002, .inl g6_371)), (qf7, .inl (cf7, 3002, .inl g7_371))]) hD hS hA [0, 1, 2, 3, 4] rfl
      refine va_callv (va_runV (As := [.int s0_371, .int l1_371, .int l3_371, .int l4_371]) (rest := []) ⟨hx, hb, hml, hown, hts⟩ (tm_token l dC dI H.size h0 z371 s0_371 l1_371 l3_371 l4_371 qf4 qf5 qf6 qf7 x8_371 cf4 g4_371 cf5 g5_371 cf6 g6_371 cf7 g7_371 nf g920_0 g920_1 g920_2 g920_3 u20_4 hlh_371 hfh_371_4 hfh_371_5 hfh_371_6 hfh_371_7 hfh_371_8 hu_20) (cwV 4 hts gv_h9_3 rfl rfl rfl (by decide +kernel) ⟨Nat.le_of_ble_eq_true rfl, Nat.le_of_ble_eq_true rfl⟩) ⟨fun a U g mk q => by obtain ⟨q0, q1, qP, qK, qD⟩ := q; exact ⟨q0, q1, qP, va_K.moved (u := U) (U := U.calling g mk a) (Vm.Alike.refl U.vm) qK, qD⟩, va_recv hKc hPc (ci := 13) (q0 := 0) rfl rfl, fun U hU hW => ⟨rfl, by rw [hU], by rw [hU]; exact hPc, va_K.moved hW.alike hKc, hDc.weaken (fun _ _ _ _ => trivial)⟩⟩ rfl rfl hl.1 rfl (lv_room (Nat.le_of_ble_eq_true rfl)) dX13_tokenize_375 ⟨Nat.le_of_ble_eq_true rfl, Nat.le_of_ble_eq_true rfl⟩) hS (fun q _ h => hFc q h) hFc ?_
      clear hS
      intro u t H1 locs ht hvm hw hB hz1 hk1 hS
      obtain ⟨z_20, rfl⟩ : ∃ z, z = u := ⟨_, rfl⟩
      obtain ⟨hP1, hK1, hD1⟩ := hB
      rw [ht] at hP1
      have hK1 := va_K.moved hvm.symm hK1
      try dsimp only at hw
      have hPD := va_join (wr := [(qf2, .inl (cf2, 3000, .inl f2))]) (w1 := [(h0, .inr (13, z_20)), (qf4, .inl (cf4, 3008, .inl g920_0)), (qf5, .inl (cf5, 3002, .inl g920_1)), (qf6, .inl (cf6, 3002, .inl g920_2)), (qf7, .inl (cf7, 3002, .inl g920_3))]) hP hD [0, 1, 2, 3, 4] [5] rfl rfl (by decide) (by decide) hk1 hFc hP1 hD1
      clear hP hD
      obtain ⟨hP, hD⟩ := hPD
      replace hK := (hK.sub (tys' := [(cf2, .int)]) [4] rfl).app hK1
      clear hPc hDc hKc hFc hP1 hK1 hD1 hz1 hk1 ht hvm
      generalize H1 = H at hP hS ⊢
      replace hP : va_P (dC, dI) vwCl [(qf2, .inl (cf2, 3000, .inl f2)), (h0, .inr (13, z_20)), (qf4, .inl (cf4, 3008, .inl g920_0)), (qf5, .inl (cf5, 3002, .inl g920_1)), (qf6, .inl (cf6, 3002, .inl g920_2)), (qf7, .inl (cf7, 3002, .inl g920_3))] H := hP
      replace hD : va_D A [(qf2, .inl (cf2, 3000, .inl f2)), (h0, .inr (13, z_20)), (qf4, .inl (cf4, 3008, .inl g920_0)), (qf5, .inl (cf5, 3002, .inl g920_1)), (qf6, .inl (cf6, 3002, .inl g920_2)), (qf7, .inl (cf7, 3002, .inl g920_3))] := hD
      replace hK : va_K (dC, dI) vwCl [(cf2, .int), (cf4, .int), (cf5, .int), (cf6, .int), (cf7, .int)] s := hK
      obtain ⟨hwa_20, hln_20, hre_20, hch_20_8⟩ := hw
      have hfk_20_2 : z_20[2]? = some (.ref qf2) := (hre_20 2 (by decide)).trans (hfh_371_2)
      have hfk_20_3 : z_20[3]? = some (.int v3) := (hre_20 3 (by decide)).trans (hfh_371_3)
      have hfk_20_4 : z_20[4]? = some (.ref qf4) := (hre_20 4 (by decide)).trans (hfh_371_4)
      have hfk_20_5 : z_20[5]? = some (.ref qf5) := (hre_20 5 (by decide)).trans (hfh_371_5)
      have hfk_20_6 : z_20[6]? = some (.ref qf6) := (hre_20 6 (by decide)).trans (hfh_371_6)
      have hfk_20_7 : z_20[7]? = some (.ref qf7) := (hre_20 7 (by decide)).trans (hfh_371_7)
      have hrq_20 : ∀ j : Nat, j ≠ 8 → z_20[j]? = zs[j]? := fun j g8 => (hre_20 j g8).trans (hrh_371 j g8)
      exact hj_378 (H, locs, ls, z_20, l1_371, l3_371, g920_0, g920_1, g920_2, g920_3, u20_4) ⟨lv_sub hl [0, 1, 2] rfl, hS, hD.sub (ws' := [(h0, .inr (13, z_20)), (qf4, .inl (cf4, 3008, .inl g920_0)), (qf5, .inl (cf5, 3002, .inl g920_1)), (qf6, .inl (cf6, 3002, .inl g920_2)), (qf7, .inl (cf7, 3002, .inl g920_3)), (qf2, .inl (cf2, 3000, .inl f2))]) [1, 2, 3, 4, 5, 0] (by decide) rfl, hP.sub (ws' := [(h0, .inr (13, z_20)), (qf4, .inl (cf4, 3008, .inl g920_0)), (qf5, .inl (cf5, 3002, .inl g920_1)), (qf6, .inl (cf6, 3002, .inl g920_2)), (qf7, .inl (cf7, 3002, .inl g920_3)), (qf2, .inl (cf2, 3000, .inl f2))]) [1, 2, 3, 4, 5, 0] rfl, hfk_20_2, hfk_20_3, hfk_20_4, hfk_20_5, hfk_20_6, hfk_20_7, hch_20_8, hln_20, hrq_20, hsp⟩
    intro hj_371
    refine jn_use (α := Heap × List Loc × Array Slot × List Value × Int32 × Int32 × Int64 × Int32 × (Nat → Int32) × (Nat → Int32) × (Nat → Int32) × (Nat → Int32) × Int32) (fun x9 => x9.1) (fun x9 => x9.2.1) (fun x9 => F0 m 307 x9.2.2.1 [.int (x9.2.2.2.2.2.2.2.1), .ref h0]) (fun x9 => match x9 with | (H, locs, ls, z307, l1_307, l3_307, j4_307, s0_307, g4_307, g5_307, g6_307, g7_307, x8_307) => lv_has ls 7 [(0, .ref h0), (1, .int l1_307), (3, .int l3_307), (4, .long j4_307)] ∧ va_S A s.heap H locs ∧ va_D A [(h0, .inr (13, z307)), (qf4, .inl (cf4, 3008, .inl g4_307)), (qf5, .inl (cf5, 3002, .inl g5_307)), (qf6, .inl (cf6, 3002, .inl g6_307)), (qf7, .inl (cf7, 3002, .inl g7_307)), (qf2, .inl (cf2, 3000, .inl f2))] ∧ va_P (dC, dI) vwCl [(h0, .inr (13, z307)), (qf4, .inl (cf4, 3008, .inl g4_307)), (qf5, .inl (cf5, 3002, .inl g5_307)), (qf6, .inl (cf6, 3002, .inl g6_307)), (qf7, .inl (cf7, 3002, .inl g7_307)), (qf2, .inl (cf2, 3000, .inl f2))] H ∧ z307[2]? = some (.ref qf2) ∧ z307[3]? = some (.int v3) ∧ z307[4]? = some (.ref qf4) ∧ z307[5]? = some (.ref qf5) ∧ z307[6]? = some (.ref qf6) ∧ z307[7]? = some (.ref qf7) ∧ z307[8]? = some (.int x8_307) ∧ z307.length = 155 ∧ (∀ j : Nat, j ≠ 8 → z307[j]? = zs[j]?) ∧ jn_vm_tokenize_307 nf v3 f4 f5 f6 f7 f2 nS352 fS352 (lp_vm_tokenize_7 nf n_7 v3 f4 f5 f6 f7 f2 nS352 fS352) l1_307 l3_307 j4_307 s0_307 g4_307 g5_307 g6_307 g7_307 x8_307 = some (o4, o5, o6, o7, w8)) ?_ ?_
    · intro x9 hJ9
      obtain ⟨H, locs, ls, z307, l1_307, l3_307, j4_307, s0_307, g4_307, g5_307, g6_307, g7_307, x8_307⟩ := x9
      obtain ⟨hl, hS, hD, hP, hfh_307_2, hfh_307_3, hfh_307_4, hfh_307_5, hfh_307_6, hfh_307_7, hfh_307_8, hlh_307, hrh_307, hsp⟩ := hJ9
      replace hl : lv_has ls 7 [(0, .ref h0), (1, .int l1_307), (3, .int l3_307), (4, .long j4_307)] := hl
      replace hS : va_S A s.heap H locs := hS
      replace hD : va_D A [(h0, .inr (13, z307)), (qf4, .inl (cf4, 3008, .inl g4_307)), (qf5, .inl (cf5, 3002, .inl g5_307)), (qf6, .inl (cf6, 3002, .inl g6_307)), (qf7, .inl (cf7, 3002, .inl g7_307)), (qf2, .inl (cf2, 3000, .inl f2))] := hD
      replace hP : va_P (dC, dI) vwCl [(h0, .inr (13, z307)), (qf4, .inl (cf4, 3008, .inl g4_307)), (qf5, .inl (cf5, 3002, .inl g5_307)), (qf6, .inl (cf6, 3002, .inl g6_307)), (qf7, .inl (cf7, 3002, .inl g7_307)), (qf2, .inl (cf2, 3000, .inl f2))] H := hP
      replace hsp : jn_vm_tokenize_307 nf v3 f4 f5 f6 f7 f2 nS352 fS352 (lp_vm_tokenize_7 nf n_7 v3 f4 f5 f6 f7 f2 nS352 fS352) l1_307 l3_307 j4_307 s0_307 g4_307 g5_307 g6_307 g7_307 x8_307 = some (o4, o5, o6, o7, w8) := hsp
      show W _ _ _ _ _ _ _ _ _ _ H locs _ _ _ (F0 m 307 ls [.int s0_307, .ref h0])
      unfold jn_vm_tokenize_307 at hsp
      try dsimp only at hsp
      refine lv_iload_n hx hb dX13_tokenize_307 rfl (lv_at hl 1 rfl) ?_
      refine lv_iload_n hx hb dX13_tokenize_308 rfl (lv_at hl 2 rfl) ?_
      refine lv_lload hx hb dX13_tokenize_309 (lv_at hl 3 rfl) ?_
      refine lv_l2i hx hb dX13_tokenize_311 rfl ?_
      obtain ⟨⟨g919_0, g919_1, g919_2, g919_3, u19_4⟩, hu_19, hsp⟩ := ox_bind hsp
      try dsimp only at hsp
      have hPc := hP.sub (ws' := [(h0, .inr (13, z307)), (qf4, .inl (cf4, 3008, .inl g4_307)), (qf5, .inl (cf5, 3002, .inl g5_307)), (qf6, .inl (cf6, 3002, .inl g6_307)), (qf7, .inl (cf7, 3002, .inl g7_307))]) [0, 1, 2, 3, 4] rfl
      have hDc := hD.sub (ws' := [(h0, .inr (13, z307)), (qf4, .inl (cf4, 3008, .inl g4_307)), (qf5, .inl (cf5, 3002, .inl g5_307)), (qf6, .inl (cf6, 3002, .inl g6_307)), (qf7, .inl (cf7, 3002, .inl g7_307))]) [0, 1, 2, 3, 4] (by decide) rfl
      have hKc := hK.sub (tys' := [(cf4, .int), (cf5, .int), (cf6, .int), (cf7, .int)]) [0, 1, 2, 3] rfl
      have hFc := va_free (wc := [(h0, .inr (13, z307)), (qf4, .inl (cf4, 3008, .inl g4_307)), (qf5, .inl (cf5, 3002, .inl g5_307)), (qf6, .inl (cf6, 3002, .inl g6_307)), (qf7, .inl (cf7, 3002, .inl g7_307))]) hD hS hA [0, 1, 2, 3, 4] rfl
      refine va_callv (va_runV (As := [.int s0_307, .int l1_307, .int l3_307, .int ((j4_307 : Int64).toInt32)]) (rest := []) ⟨hx, hb, hml, hown, hts⟩ (tm_token l dC dI H.size h0 z307 s0_307 l1_307 l3_307 (((j4_307 : Int64).toInt32)) qf4 qf5 qf6 qf7 x8_307 cf4 g4_307 cf5 g5_307 cf6 g6_307 cf7 g7_307 nf g919_0 g919_1 g919_2 g919_3 u19_4 hlh_307 hfh_307_4 hfh_307_5 hfh_307_6 hfh_307_7 hfh_307_8 hu_19) (cwV 4 hts gv_h9_3 rfl rfl rfl (by decide +kernel) ⟨Nat.le_of_ble_eq_true rfl, Nat.le_of_ble_eq_true rfl⟩) ⟨fun a U g mk q => by obtain ⟨q0, q1, qP, qK, qD⟩ := q; exact ⟨q0, q1, qP, va_K.moved (u := U) (U := U.calling g mk a) (Vm.Alike.refl U.vm) qK, qD⟩, va_recv hKc hPc (ci := 13) (q0 := 0) rfl rfl, fun U hU hW => ⟨rfl, by rw [hU], by rw [hU]; exact hPc, va_K.moved hW.alike hKc, hDc.weaken (fun _ _ _ _ => trivial)⟩⟩ rfl rfl hl.1 rfl (lv_room (Nat.le_of_ble_eq_true rfl)) dX13_tokenize_312 ⟨Nat.le_of_ble_eq_true rfl, Nat.le_of_ble_eq_true rfl⟩) hS (fun q _ h => hFc q h) hFc ?_
      clear hS
      intro u t H1 locs ht hvm hw hB hz1 hk1 hS
      obtain ⟨z_19, rfl⟩ : ∃ z, z = u := ⟨_, rfl⟩
      obtain ⟨hP1, hK1, hD1⟩ := hB
      rw [ht] at hP1
      have hK1 := va_K.moved hvm.symm hK1
      try dsimp only at hw
      have hPD := va_join (wr := [(qf2, .inl (cf2, 3000, .inl f2))]) (w1 := [(h0, .inr (13, z_19)), (qf4, .inl (cf4, 3008, .inl g919_0)), (qf5, .inl (cf5, 3002, .inl g919_1)), (qf6, .inl (cf6, 3002, .inl g919_2)), (qf7, .inl (cf7, 3002, .inl g919_3))]) hP hD [0, 1, 2, 3, 4] [5] rfl rfl (by decide) (by decide) hk1 hFc hP1 hD1
      clear hP hD
      obtain ⟨hP, hD⟩ := hPD
      replace hK := (hK.sub (tys' := [(cf2, .int)]) [4] rfl).app hK1
      clear hPc hDc hKc hFc hP1 hK1 hD1 hz1 hk1 ht hvm
      generalize H1 = H at hP hS ⊢
      replace hP : va_P (dC, dI) vwCl [(qf2, .inl (cf2, 3000, .inl f2)), (h0, .inr (13, z_19)), (qf4, .inl (cf4, 3008, .inl g919_0)), (qf5, .inl (cf5, 3002, .inl g919_1)), (qf6, .inl (cf6, 3002, .inl g919_2)), (qf7, .inl (cf7, 3002, .inl g919_3))] H := hP
      replace hD : va_D A [(qf2, .inl (cf2, 3000, .inl f2)), (h0, .inr (13, z_19)), (qf4, .inl (cf4, 3008, .inl g919_0)), (qf5, .inl (cf5, 3002, .inl g919_1)), (qf6, .inl (cf6, 3002, .inl g919_2)), (qf7, .inl (cf7, 3002, .inl g919_3))] := hD
      replace hK : va_K (dC, dI) vwCl [(cf2, .int), (cf4, .int), (cf5, .int), (cf6, .int), (cf7, .int)] s := hK
      obtain ⟨hwa_19, hln_19, hre_19, hch_19_8⟩ := hw
      have hfk_19_2 : z_19[2]? = some (.ref qf2) := (hre_19 2 (by decide)).trans (hfh_307_2)
      have hfk_19_3 : z_19[3]? = some (.int v3) := (hre_19 3 (by decide)).trans (hfh_307_3)
      have hfk_19_4 : z_19[4]? = some (.ref qf4) := (hre_19 4 (by decide)).trans (hfh_307_4)
      have hfk_19_5 : z_19[5]? = some (.ref qf5) := (hre_19 5 (by decide)).trans (hfh_307_5)
      have hfk_19_6 : z_19[6]? = some (.ref qf6) := (hre_19 6 (by decide)).trans (hfh_307_6)
      have hfk_19_7 : z_19[7]? = some (.ref qf7) := (hre_19 7 (by decide)).trans (hfh_307_7)
      have hrq_19 : ∀ j : Nat, j ≠ 8 → z_19[j]? = zs[j]? := fun j g8 => (hre_19 j g8).trans (hrh_307 j g8)
      refine lv_goto (tgt := 378) hx hb dX13_tokenize_315 (by decide) ?_
      exact hj_378 (H, locs, ls, z_19, l1_307, l3_307, g919_0, g919_1, g919_2, g919_3, u19_4) ⟨lv_sub hl [0, 1, 2] rfl, hS, hD.sub (ws' := [(h0, .inr (13, z_19)), (qf4, .inl (cf4, 3008, .inl g919_0)), (qf5, .inl (cf5, 3002, .inl g919_1)), (qf6, .inl (cf6, 3002, .inl g919_2)), (qf7, .inl (cf7, 3002, .inl g919_3)), (qf2, .inl (cf2, 3000, .inl f2))]) [1, 2, 3, 4, 5, 0] (by decide) rfl, hP.sub (ws' := [(h0, .inr (13, z_19)), (qf4, .inl (cf4, 3008, .inl g919_0)), (qf5, .inl (cf5, 3002, .inl g919_1)), (qf6, .inl (cf6, 3002, .inl g919_2)), (qf7, .inl (cf7, 3002, .inl g919_3)), (qf2, .inl (cf2, 3000, .inl f2))]) [1, 2, 3, 4, 5, 0] rfl, hfk_19_2, hfk_19_3, hfk_19_4, hfk_19_5, hfk_19_6, hfk_19_7, hch_19_8, hln_19, hrq_19, hsp⟩
    intro hj_307
    refine jn_use (α := Heap × List Loc × Array Slot × List Value × Int32 × Int32 × Int64 × Int32 × (Nat → Int32) × (Nat → Int32) × (Nat → Int32) × (Nat → Int32) × Int32) (fun x9 => x9.1) (fun x9 => x9.2.1) (fun x9 => F0 m 293 x9.2.2.1 [.int (x9.2.2.2.2.2.2.2.1)]) (fun x9 => match x9 with | (H, locs, ls, z293, l1_293, l3_293, j4_293, s0_293, g4_293, g5_293, g6_293, g7_293, x8_293) => lv_has ls 7 [(0, .ref h0), (1, .int l1_293), (3, .int l3_293), (4, .long j4_293)] ∧ va_S A s.heap H locs ∧ va_D A [(h0, .inr (13, z293)), (qf4, .inl (cf4, 3008, .inl g4_293)), (qf5, .inl (cf5, 3002, .inl g5_293)), (qf6, .inl (cf6, 3002, .inl g6_293)), (qf7, .inl (cf7, 3002, .inl g7_293)), (qf2, .inl (cf2, 3000, .inl f2))] ∧ va_P (dC, dI) vwCl [(h0, .inr (13, z293)), (qf4, .inl (cf4, 3008, .inl g4_293)), (qf5, .inl (cf5, 3002, .inl g5_293)), (qf6, .inl (cf6, 3002, .inl g6_293)), (qf7, .inl (cf7, 3002, .inl g7_293)), (qf2, .inl (cf2, 3000, .inl f2))] H ∧ z293[2]? = some (.ref qf2) ∧ z293[3]? = some (.int v3) ∧ z293[4]? = some (.ref qf4) ∧ z293[5]? = some (.ref qf5) ∧ z293[6]? = some (.ref qf6) ∧ z293[7]? = some (.ref qf7) ∧ z293[8]? = some (.int x8_293) ∧ z293.length = 155 ∧ (∀ j : Nat, j ≠ 8 → z293[j]? = zs[j]?) ∧ jn_vm_tokenize_293 nf v3 f4 f5 f6 f7 f2 nS352 fS352 (lp_vm_tokenize_7 nf n_7 v3 f4 f5 f6 f7 f2 nS352 fS352) l1_293 l3_293 j4_293 s0_293 g4_293 g5_293 g6_293 g7_293 x8_293 = some (o4, o5, o6, o7, w8)) ?_ ?_
    · intro x9 hJ9
      obtain ⟨H, locs, ls, z293, l1_293, l3_293, j4_293, s0_293, g4_293, g5_293, g6_293, g7_293, x8_293⟩ := x9
      obtain ⟨hl, hS, hD, hP, hfh_293_2, hfh_293_3, hfh_293_4, hfh_293_5, hfh_293_6, hfh_293_7, hfh_293_8, hlh_293, hrh_293, hsp⟩ := hJ9
      replace hl : lv_has ls 7 [(0, .ref h0), (1, .int l1_293), (3, .int l3_293), (4, .long j4_293)] := hl
      replace hS : va_S A s.heap H locs := hS
      replace hD : va_D A [(h0, .inr (13, z293)), (qf4, .inl (cf4, 3008, .inl g4_293)), (qf5, .inl (cf5, 3002, .inl g5_293)), (qf6, .inl (cf6, 3002, .inl g6_293)), (qf7, .inl (cf7, 3002, .inl g7_293)), (qf2, .inl (cf2, 3000, .inl f2))] := hD
      replace hP : va_P (dC, dI) vwCl [(h0, .inr (13, z293)), (qf4, .inl (cf4, 3008, .inl g4_293)), (qf5, .inl (cf5, 3002, .inl g5_293)), (qf6, .inl (cf6, 3002, .inl g6_293)), (qf7, .inl (cf7, 3002, .inl g7_293)), (qf2, .inl (cf2, 3000, .inl f2))] H := hP
      replace hsp : jn_vm_tokenize_293 nf v3 f4 f5 f6 f7 f2 nS352 fS352 (lp_vm_tokenize_7 nf n_7 v3 f4 f5 f6 f7 f2 nS352 fS352) l1_293 l3_293 j4_293 s0_293 g4_293 g5_293 g6_293 g7_293 x8_293 = some (o4, o5, o6, o7, w8) := hsp
      show W _ _ _ _ _ _ _ _ _ _ H locs _ _ _ (F0 m 293 ls [.int s0_293])
      unfold jn_vm_tokenize_293 at hsp
      try dsimp only at hsp
      refine lv_istore (lv' := [(6, .int s0_293), (0, .ref h0), (1, .int l1_293), (3, .int l3_293), (4, .long j4_293)]) hx hb dX13_tokenize_293 hl (by decide) rfl (fun ls hl => ?_)
      refine lv_aload_n hx hb dX13_tokenize_295 rfl (lv_at hl 1 rfl) ?_
      refine lv_iload hx hb dX13_tokenize_296 (lv_at hl 0 rfl) ?_
      refine lv_if_eq (tgt := 305) hx hb dX13_tokenize_298 (by decide) (fun c_53 => ?_) (fun c_53 => ?_)
      · rw [if_pos c_53] at hsp
        refine lv_bipush (v := 6) hx hb dX13_tokenize_305 (by decide) ?_
        exact hj_307 (H, locs, ls, z293, l1_293, l3_293, j4_293, 6, g4_293, g5_293, g6_293, g7_293, x8_293) ⟨lv_sub hl [1, 2, 3, 4] rfl, hS, hD.sub (ws' := [(h0, .inr (13, z293)), (qf4, .inl (cf4, 3008, .inl g4_293)), (qf5, .inl (cf5, 3002, .inl g5_293)), (qf6, .inl (cf6, 3002, .inl g6_293)), (qf7, .inl (cf7, 3002, .inl g7_293)), (qf2, .inl (cf2, 3000, .inl f2))]) [0, 1, 2, 3, 4, 5] (by decide) rfl, hP.sub (ws' := [(h0, .inr (13, z293)), (qf4, .inl (cf4, 3008, .inl g4_293)), (qf5, .inl (cf5, 3002, .inl g5_293)), (qf6, .inl (cf6, 3002, .inl g6_293)), (qf7, .inl (cf7, 3002, .inl g7_293)), (qf2, .inl (cf2, 3000, .inl f2))]) [0, 1, 2, 3, 4, 5] rfl, hfh_293_2, hfh_293_3, hfh_293_4, hfh_293_5, hfh_293_6, hfh_293_7, hfh_293_8, hlh_293, hrh_293, hsp⟩
      · rw [if_neg c_53] at hsp
        refine lv_iconst (v := 2) hx hb dX13_tokenize_301 (by decide) ?_
        refine lv_goto (tgt := 307) hx hb dX13_tokenize_302 (by decide) ?_
        exact hj_307 (H, locs, ls, z293, l1_293, l3_293, j4_293, 2, g4_293, g5_293, g6_293, g7_293, x8_293) ⟨lv_sub hl [1, 2, 3, 4] rfl, hS, hD.sub (ws' := [(h0, .inr (13, z293)), (qf4, .inl (cf4, 3008, .inl g4_293)), (qf5, .inl (cf5, 3002, .inl g5_293)), (qf6, .inl (cf6, 3002, .inl g6_293)), (qf7, .inl (cf7, 3002, .inl g7_293)), (qf2, .inl (cf2, 3000, .inl f2))]) [0, 1, 2, 3, 4, 5] (by decide) rfl, hP.sub (ws' := [(h0, .inr (13, z293)), (qf4, .inl (cf4, 3008, .inl g4_293)), (qf5, .inl (cf5, 3002, .inl g5_293)), (qf6, .inl (cf6, 3002, .inl g6_293)), (qf7, .inl (cf7, 3002, .inl g7_293)), (qf2, .inl (cf2, 3000, .inl f2))]) [0, 1, 2, 3, 4, 5] rfl, hfh_293_2, hfh_293_3, hfh_293_4, hfh_293_5, hfh_293_6, hfh_293_7, hfh_293_8, hlh_293, hrh_293, hsp⟩
    intro hj_293
    refine jn_use (α := Heap × List Loc × Array Slot × List Value × Int32 × Int32 × Int64 × (Nat → Int32) × (Nat → Int32) × (Nat → Int32) × (Nat → Int32) × Int32) (fun x9 => x9.1) (fun x9 => x9.2.1) (fun x9 => F0 m 292 x9.2.2.1 []) (fun x9 => match x9 with | (H, locs, ls, z292, l1_292, l3_292, j4_292, g4_292, g5_292, g6_292, g7_292, x8_292) => lv_has ls 7 [(0, .ref h0), (1, .int l1_292), (3, .int l3_292), (4, .long j4_292)] ∧ va_S A s.heap H locs ∧ va_D A [(h0, .inr (13, z292)), (qf4, .inl (cf4, 3008, .inl g4_292)), (qf5, .inl (cf5, 3002, .inl g5_292)), (qf6, .inl (cf6, 3002, .inl g6_292)), (qf7, .inl (cf7, 3002, .inl g7_292)), (qf2, .inl (cf2, 3000, .inl f2))] ∧ va_P (dC, dI) vwCl [(h0, .inr (13, z292)), (qf4, .inl (cf4, 3008, .inl g4_292)), (qf5, .inl (cf5, 3002, .inl g5_292)), (qf6, .inl (cf6, 3002, .inl g6_292)), (qf7, .inl (cf7, 3002, .inl g7_292)), (qf2, .inl (cf2, 3000, .inl f2))] H ∧ z292[2]? = some (.ref qf2) ∧ z292[3]? = some (.int v3) ∧ z292[4]? = some (.ref qf4) ∧ z292[5]? = some (.ref qf5) ∧ z292[6]? = some (.ref qf6) ∧ z292[7]? = some (.ref qf7) ∧ z292[8]? = some (.int x8_292) ∧ z292.length = 155 ∧ (∀ j : Nat, j ≠ 8 → z292[j]? = zs[j]?) ∧ jn_vm_tokenize_292 nf v3 f4 f5 f6 f7 f2 nS352 fS352 (lp_vm_tokenize_7 nf n_7 v3 f4 f5 f6 f7 f2 nS352 fS352) l1_292 l3_292 j4_292 g4_292 g5_292 g6_292 g7_292 x8_292 = some (o4, o5, o6, o7, w8)) ?_ ?_
    · intro x9 hJ9
      obtain ⟨H, locs, ls, z292, l1_292, l3_292, j4_292, g4_292, g5_292, g6_292, g7_292, x8_292⟩ := x9
      obtain ⟨hl, hS, hD, hP, hfh_292_2, hfh_292_3, hfh_292_4, hfh_292_5, hfh_292_6, hfh_292_7, hfh_292_8, hlh_292, hrh_292, hsp⟩ := hJ9
      replace hl : lv_has ls 7 [(0, .ref h0), (1, .int l1_292), (3, .int l3_292), (4, .long j4_292)] := hl
      replace hS : va_S A s.heap H locs := hS
      replace hD : va_D A [(h0, .inr (13, z292)), (qf4, .inl (cf4, 3008, .inl g4_292)), (qf5, .inl (cf5, 3002, .inl g5_292)), (qf6, .inl (cf6, 3002, .inl g6_292)), (qf7, .inl (cf7, 3002, .inl g7_292)), (qf2, .inl (cf2, 3000, .inl f2))] := hD
      replace hP : va_P (dC, dI) vwCl [(h0, .inr (13, z292)), (qf4, .inl (cf4, 3008, .inl g4_292)), (qf5, .inl (cf5, 3002, .inl g5_292)), (qf6, .inl (cf6, 3002, .inl g6_292)), (qf7, .inl (cf7, 3002, .inl g7_292)), (qf2, .inl (cf2, 3000, .inl f2))] H := hP
      replace hsp : jn_vm_tokenize_292 nf v3 f4 f5 f6 f7 f2 nS352 fS352 (lp_vm_tokenize_7 nf n_7 v3 f4 f5 f6 f7 f2 nS352 fS352) l1_292 l3_292 j4_292 g4_292 g5_292 g6_292 g7_292 x8_292 = some (o4, o5, o6, o7, w8) := hsp
      show W _ _ _ _ _ _ _ _ _ _ H locs _ _ _ (F0 m 292 ls [])
      unfold jn_vm_tokenize_292 at hsp
      try dsimp only at hsp
      refine lv_iconst (v := 0) hx hb dX13_tokenize_292 (by decide) ?_
      exact hj_293 (H, locs, ls, z292, l1_292, l3_292, j4_292, 0, g4_292, g5_292, g6_292, g7_292, x8_292) ⟨lv_sub hl [0, 1, 2, 3] rfl, hS, hD.sub (ws' := [(h0, .inr (13, z292)), (qf4, .inl (cf4, 3008, .inl g4_292)), (qf5, .inl (cf5, 3002, .inl g5_292)), (qf6, .inl (cf6, 3002, .inl g6_292)), (qf7, .inl (cf7, 3002, .inl g7_292)), (qf2, .inl (cf2, 3000, .inl f2))]) [0, 1, 2, 3, 4, 5] (by decide) rfl, hP.sub (ws' := [(h0, .inr (13, z292)), (qf4, .inl (cf4, 3008, .inl g4_292)), (qf5, .inl (cf5, 3002, .inl g5_292)), (qf6, .inl (cf6, 3002, .inl g6_292)), (qf7, .inl (cf7, 3002, .inl g7_292)), (qf2, .inl (cf2, 3000, .inl f2))]) [0, 1, 2, 3, 4, 5] rfl, hfh_292_2, hfh_292_3, hfh_292_4, hfh_292_5, hfh_292_6, hfh_292_7, hfh_292_8, hlh_292, hrh_292, hsp⟩
    intro hj_292
    refine jn_use (α := Heap × List Loc × Array Slot × List Value × Int32 × Int32 × Int64 × (Nat → Int32) × (Nat → Int32) × (Nat → Int32) × (Nat → Int32) × Int32) (fun x9 => x9.1) (fun x9 => x9.2.1) (fun x9 => F0 m 263 x9.2.2.1 []) (fun x9 => match x9 with | (H, locs, ls, z263, l1_263, l3_263, j4_263, g4_263, g5_263, g6_263, g7_263, x8_263) => lv_has ls 7 [(0, .ref h0), (1, .int l1_263), (3, .int l3_263), (4, .long j4_263)] ∧ va_S A s.heap H locs ∧ va_D A [(h0, .inr (13, z263)), (qf4, .inl (cf4, 3008, .inl g4_263)), (qf5, .inl (cf5, 3002, .inl g5_263)), (qf6, .inl (cf6, 3002, .inl g6_263)), (qf7, .inl (cf7, 3002, .inl g7_263)), (qf2, .inl (cf2, 3000, .inl f2))] ∧ va_P (dC, dI) vwCl [(h0, .inr (13, z263)), (qf4, .inl (cf4, 3008, .inl g4_263)), (qf5, .inl (cf5, 3002, .inl g5_263)), (qf6, .inl (cf6, 3002, .inl g6_263)), (qf7, .inl (cf7, 3002, .inl g7_263)), (qf2, .inl (cf2, 3000, .inl f2))] H ∧ z263[2]? = some (.ref qf2) ∧ z263[3]? = some (.int v3) ∧ z263[4]? = some (.ref qf4) ∧ z263[5]? = some (.ref qf5) ∧ z263[6]? = some (.ref qf6) ∧ z263[7]? = some (.ref qf7) ∧ z263[8]? = some (.int x8_263) ∧ z263.length = 155 ∧ (∀ j : Nat, j ≠ 8 → z263[j]? = zs[j]?) ∧ jn_vm_tokenize_263 nf v3 f4 f5 f6 f7 f2 nS352 fS352 (lp_vm_tokenize_7 nf n_7 v3 f4 f5 f6 f7 f2 nS352 fS352) l1_263 l3_263 j4_263 g4_263 g5_263 g6_263 g7_263 x8_263 = some (o4, o5, o6, o7, w8)) ?_ ?_
    · intro x9 hJ9
      obtain ⟨H, locs, ls, z263, l1_263, l3_263, j4_263, g4_263, g5_263, g6_263, g7_263, x8_263⟩ := x9
      obtain ⟨hl, hS, hD, hP, hfh_263_2, hfh_263_3, hfh_263_4, hfh_263_5, hfh_263_6, hfh_263_7, hfh_263_8, hlh_263, hrh_263, hsp⟩ := hJ9
      replace hl : lv_has ls 7 [(0, .ref h0), (1, .int l1_263), (3, .int l3_263), (4, .long j4_263)] := hl
      replace hS : va_S A s.heap H locs := hS
      replace hD : va_D A [(h0, .inr (13, z263)), (qf4, .inl (cf4, 3008, .inl g4_263)), (qf5, .inl (cf5, 3002, .inl g5_263)), (qf6, .inl (cf6, 3002, .inl g6_263)), (qf7, .inl (cf7, 3002, .inl g7_263)), (qf2, .inl (cf2, 3000, .inl f2))] := hD
      replace hP : va_P (dC, dI) vwCl [(h0, .inr (13, z263)), (qf4, .inl (cf4, 3008, .inl g4_263)), (qf5, .inl (cf5, 3002, .inl g5_263)), (qf6, .inl (cf6, 3002, .inl g6_263)), (qf7, .inl (cf7, 3002, .inl g7_263)), (qf2, .inl (cf2, 3000, .inl f2))] H := hP
      replace hsp : jn_vm_tokenize_263 nf v3 f4 f5 f6 f7 f2 nS352 fS352 (lp_vm_tokenize_7 nf n_7 v3 f4 f5 f6 f7 f2 nS352 fS352) l1_263 l3_263 j4_263 g4_263 g5_263 g6_263 g7_263 x8_263 = some (o4, o5, o6, o7, w8) := hsp
      show W _ _ _ _ _ _ _ _ _ _ H locs _ _ _ (F0 m 263 ls [])
      unfold jn_vm_tokenize_263 at hsp
      try dsimp only at hsp
      refine lv_aload_n hx hb dX13_tokenize_263 rfl (lv_at hl 0 rfl) ?_
      refine lv_iload_n hx hb dX13_tokenize_264 rfl (lv_at hl 1 rfl) ?_
      refine lv_iload_n hx hb dX13_tokenize_265 rfl (lv_at hl 2 rfl) ?_
      refine lv_iadd hx hb dX13_tokenize_266 ?_
      obtain ⟨u16_0, hu_16, hsp⟩ := ox_bind hsp
      try dsimp only at hsp
      have hPc := hP.sub (ws' := [(h0, .inr (13, z263)), (qf2, .inl (cf2, 3000, .inl f2))]) [0, 5] rfl
      have hDc := hD.sub (ws' := [(h0, .inr (13, z263)), (qf2, .inl (cf2, 3000, .inl f2))]) [0, 5] (by decide) rfl
      have hKc := hK.sub (tys' := [(cf2, .int)]) [4] rfl
      have hFc := va_free (wc := [(h0, .inr (13, z263)), (qf2, .inl (cf2, 3000, .inl f2))]) hD hS hA [0, 5] rfl
      refine va_calli (va_runV (As := [.int (l1_263 + l3_263)]) (rest := []) ⟨hx, hb, hml, hown, hts⟩ (tm_at l dC dI H.size h0 z263 ((l1_263 + l3_263)) qf2 v3 cf2 f2 nf u16_0 hlh_263 hfh_263_2 hfh_263_3 hu_16) (cwV 1 hts gv_h9_2 rfl rfl rfl (by decide +kernel) ⟨Nat.le_of_ble_eq_true rfl, Nat.le_of_ble_eq_true rfl⟩) ⟨fun a U g mk q => by obtain ⟨q0, q1, qP, qK, qD⟩ := q; exact ⟨q0, q1, qP, va_K.moved (u := U) (U := U.calling g mk a) (Vm.Alike.refl U.vm) qK, qD⟩, va_recv hKc hPc (ci := 13) (q0 := 0) rfl rfl, fun U hU hW => ⟨rfl, by rw [hU], by rw [hU]; exact hPc, va_K.moved hW.alike hKc, hDc.weaken (fun _ _ _ _ => trivial)⟩⟩ rfl rfl hl.1 rfl (lv_room (Nat.le_of_ble_eq_true rfl)) dX13_tokenize_267 ⟨Nat.le_of_ble_eq_true rfl, Nat.le_of_ble_eq_true rfl⟩) hS (fun q _ h => hFc q h) hFc ?_
      clear hS
      intro r_47 u t H1 locs ht hvm hw hB hz1 hk1 hS
      obtain ⟨z_16, rfl⟩ : ∃ z, z = u := ⟨_, rfl⟩
      obtain ⟨hP1, hK1, hD1⟩ := hB
      rw [ht] at hP1
      have hK1 := va_K.moved hvm.symm hK1
      try dsimp only at hw
      have hPD := va_join (wr := [(qf4, .inl (cf4, 3008, .inl g4_263)), (qf5, .inl (cf5, 3002, .inl g5_263)), (qf6, .inl (cf6, 3002, .inl g6_263)), (qf7, .inl (cf7, 3002, .inl g7_263))]) (w1 := [(h0, .inr (13, z_16)), (qf2, .inl (cf2, 3000, .inl f2))]) hP hD [0, 5] [1, 2, 3, 4] rfl rfl (by decide) (by decide) hk1 hFc hP1 hD1
      clear hP hD
      obtain ⟨hP, hD⟩ := hPD
      replace hK := (hK.sub (tys' := [(cf4, .int), (cf5, .int), (cf6, .int), (cf7, .int)]) [0, 1, 2, 3] rfl).app hK1
      clear hPc hDc hKc hFc hP1 hK1 hD1 hz1 hk1 ht hvm
      generalize H1 = H at hP hS ⊢
      replace hP : va_P (dC, dI) vwCl [(qf4, .inl (cf4, 3008, .inl g4_263)), (qf5, .inl (cf5, 3002, .inl g5_263)), (qf6, .inl (cf6, 3002, .inl g6_263)), (qf7, .inl (cf7, 3002, .inl g7_263)), (h0, .inr (13, z_16)), (qf2, .inl (cf2, 3000, .inl f2))] H := hP
      replace hD : va_D A [(qf4, .inl (cf4, 3008, .inl g4_263)), (qf5, .inl (cf5, 3002, .inl g5_263)), (qf6, .inl (cf6, 3002, .inl g6_263)), (qf7, .inl (cf7, 3002, .inl g7_263)), (h0, .inr (13, z_16)), (qf2, .inl (cf2, 3000, .inl f2))] := hD
      replace hK : va_K (dC, dI) vwCl [(cf4, .int), (cf5, .int), (cf6, .int), (cf7, .int), (cf2, .int)] s := hK
      obtain ⟨hwa_16, hln_16, hre_16⟩ := hw
      have hfk_16_2 : z_16[2]? = some (.ref qf2) := (hre_16 2 ).trans (hfh_263_2)
      have hfk_16_3 : z_16[3]? = some (.int v3) := (hre_16 3 ).trans (hfh_263_3)
      have hfk_16_4 : z_16[4]? = some (.ref qf4) := (hre_16 4 ).trans (hfh_263_4)
      have hfk_16_5 : z_16[5]? = some (.ref qf5) := (hre_16 5 ).trans (hfh_263_5)
      have hfk_16_6 : z_16[6]? = some (.ref qf6) := (hre_16 6 ).trans (hfh_263_6)
      have hfk_16_7 : z_16[7]? = some (.ref qf7) := (hre_16 7 ).trans (hfh_263_7)
      have hfk_16_8 : z_16[8]? = some (.int x8_263) := (hre_16 8 ).trans (hfh_263_8)
      have hrq_16 : ∀ j : Nat, j ≠ 8 → z_16[j]? = zs[j]? := fun j g8 => (hre_16 j ).trans (hrh_263 j g8)
      obtain rfl := hwa_16
      obtain ⟨u17_0, hu_17, hsp⟩ := ox_bind hsp
      try dsimp only at hsp
      have hPc := hP.sub (ws' := []) [] rfl
      have hDc := hD.sub (ws' := []) [] (by decide) rfl
      have hKc := hK.sub (tys' := []) [] rfl
      have hFc := va_free (wc := []) hD hS hA [] rfl
      refine va_calli (va_runS (As := [.int u16_0]) (rest := []) ⟨hx, hb, hml, hown, hts⟩ (tm_isLetter l dC dI H.size u16_0 nf u17_0 hu_17) (va_cwS 1 hts gv_h9_4 rfl rfl rfl (by decide +kernel) ⟨Nat.le_of_ble_eq_true rfl, Nat.le_of_ble_eq_true rfl⟩) ⟨fun a U g mk q => by obtain ⟨q0, q1, qP, qK, qD⟩ := q; exact ⟨q0, q1, qP, va_K.moved (u := U) (U := U.calling g mk a) (Vm.Alike.refl U.vm) qK, qD⟩, fun U hU hW => ⟨rfl, by rw [hU], by rw [hU]; exact hPc, va_K.moved hW.alike hKc, hDc.weaken (fun _ _ _ _ => trivial)⟩⟩ rfl rfl hl.1 rfl (lv_room (Nat.le_of_ble_eq_true rfl)) dX13_tokenize_270 ⟨Nat.le_of_ble_eq_true rfl, Nat.le_of_ble_eq_true rfl⟩) hS (fun q _ h => hFc q h) hFc ?_
      clear hS
      intro r_48 u t H1 locs ht hvm hw hB hz1 hk1 hS
      obtain ⟨⟩ := u
      obtain ⟨hP1, hK1, hD1⟩ := hB
      rw [ht] at hP1
      have hK1 := va_K.moved hvm.symm hK1
      try dsimp only at hw
      have hPD := va_join (wr := [(qf4, .inl (cf4, 3008, .inl g4_263)), (qf5, .inl (cf5, 3002, .inl g5_263)), (qf6, .inl (cf6, 3002, .inl g6_263)), (qf7, .inl (cf7, 3002, .inl g7_263)), (h0, .inr (13, z_16)), (qf2, .inl (cf2, 3000, .inl f2))]) (w1 := []) hP hD [] [0, 1, 2, 3, 4, 5] rfl rfl (by decide) (by decide) hk1 hFc hP1 hD1
      clear hP hD
      obtain ⟨hP, hD⟩ := hPD
      replace hK := (hK.sub (tys' := [(cf4, .int), (cf5, .int), (cf6, .int), (cf7, .int), (cf2, .int)]) [0, 1, 2, 3, 4] rfl).app hK1
      clear hPc hDc hKc hFc hP1 hK1 hD1 hz1 hk1 ht hvm
      generalize H1 = H at hP hS ⊢
      replace hP : va_P (dC, dI) vwCl [(qf4, .inl (cf4, 3008, .inl g4_263)), (qf5, .inl (cf5, 3002, .inl g5_263)), (qf6, .inl (cf6, 3002, .inl g6_263)), (qf7, .inl (cf7, 3002, .inl g7_263)), (h0, .inr (13, z_16)), (qf2, .inl (cf2, 3000, .inl f2))] H := hP
      replace hD : va_D A [(qf4, .inl (cf4, 3008, .inl g4_263)), (qf5, .inl (cf5, 3002, .inl g5_263)), (qf6, .inl (cf6, 3002, .inl g6_263)), (qf7, .inl (cf7, 3002, .inl g7_263)), (h0, .inr (13, z_16)), (qf2, .inl (cf2, 3000, .inl f2))] := hD
      replace hK : va_K (dC, dI) vwCl [(cf4, .int), (cf5, .int), (cf6, .int), (cf7, .int), (cf2, .int)] s := hK
      obtain ⟨rfl, hz_17⟩ := hw
      rcases hz_17 with rfl | rfl
      · rw [if_pos rfl] at hsp
        refine lv_if_ne (tgt := 292) hx hb dX13_tokenize_273 (by decide) (fun c_49 => (show False by revert c_49; decide).elim) (fun c_49 => ?_)
        refine lv_aload_n hx hb dX13_tokenize_276 rfl (lv_at hl 0 rfl) ?_
        refine lv_iload_n hx hb dX13_tokenize_277 rfl (lv_at hl 1 rfl) ?_
        refine lv_iload_n hx hb dX13_tokenize_278 rfl (lv_at hl 2 rfl) ?_
        refine lv_iadd hx hb dX13_tokenize_279 ?_
        obtain ⟨u18_0, hu_18, hsp⟩ := ox_bind hsp
        try dsimp only at hsp
        have hPc := hP.sub (ws' := [(h0, .inr (13, z_16)), (qf2, .inl (cf2, 3000, .inl f2))]) [4, 5] rfl
        have hDc := hD.sub (ws' := [(h0, .inr (13, z_16)), (qf2, .inl (cf2, 3000, .inl f2))]) [4, 5] (by decide) rfl
        have hKc := hK.sub (tys' := [(cf2, .int)]) [4] rfl
        have hFc := va_free (wc := [(h0, .inr (13, z_16)), (qf2, .inl (cf2, 3000, .inl f2))]) hD hS hA [4, 5] rfl
        refine va_calli (va_runV (As := [.int (l1_263 + l3_263)]) (rest := []) ⟨hx, hb, hml, hown, hts⟩ (tm_at l dC dI H.size h0 z_16 ((l1_263 + l3_263)) qf2 v3 cf2 f2 nf u18_0 hln_16 hfk_16_2 hfk_16_3 hu_18) (cwV 1 hts gv_h9_2 rfl rfl rfl (by decide +kernel) ⟨Nat.le_of_ble_eq_true rfl, Nat.le_of_ble_eq_true rfl⟩) ⟨fun a U g mk q => by obtain ⟨q0, q1, qP, qK, qD⟩ := q; exact ⟨q0, q1, qP, va_K.moved (u := U) (U := U.calling g mk a) (Vm.Alike.refl U.vm) qK, qD⟩, va_recv hKc hPc (ci := 13) (q0 := 0) rfl rfl, fun U hU hW => ⟨rfl, by rw [hU], by rw [hU]; exact hPc, va_K.moved hW.alike hKc, hDc.weaken (fun _ _ _ _ => trivial)⟩⟩ rfl rfl hl.1 rfl (lv_room (Nat.le_of_ble_eq_true rfl)) dX13_tokenize_280 ⟨Nat.le_of_ble_eq_true rfl, Nat.le_of_ble_eq_true rfl⟩) hS (fun q _ h => hFc q h) hFc ?_
        clear hS
        intro r_50 u t H1 locs ht hvm hw hB hz1 hk1 hS
        obtain ⟨z_18, rfl⟩ : ∃ z, z = u := ⟨_, rfl⟩
        obtain ⟨hP1, hK1, hD1⟩ := hB
        rw [ht] at hP1
        have hK1 := va_K.moved hvm.symm hK1
        try dsimp only at hw
        have hPD := va_join (wr := [(qf4, .inl (cf4, 3008, .inl g4_263)), (qf5, .inl (cf5, 3002, .inl g5_263)), (qf6, .inl (cf6, 3002, .inl g6_263)), (qf7, .inl (cf7, 3002, .inl g7_263))]) (w1 := [(h0, .inr (13, z_18)), (qf2, .inl (cf2, 3000, .inl f2))]) hP hD [4, 5] [0, 1, 2, 3] rfl rfl (by decide) (by decide) hk1 hFc hP1 hD1
        clear hP hD
        obtain ⟨hP, hD⟩ := hPD
        replace hK := (hK.sub (tys' := [(cf4, .int), (cf5, .int), (cf6, .int), (cf7, .int)]) [0, 1, 2, 3] rfl).app hK1
        clear hPc hDc hKc hFc hP1 hK1 hD1 hz1 hk1 ht hvm
        generalize H1 = H at hP hS ⊢
        replace hP : va_P (dC, dI) vwCl [(qf4, .inl (cf4, 3008, .inl g4_263)), (qf5, .inl (cf5, 3002, .inl g5_263)), (qf6, .inl (cf6, 3002, .inl g6_263)), (qf7, .inl (cf7, 3002, .inl g7_263)), (h0, .inr (13, z_18)), (qf2, .inl (cf2, 3000, .inl f2))] H := hP
        replace hD : va_D A [(qf4, .inl (cf4, 3008, .inl g4_263)), (qf5, .inl (cf5, 3002, .inl g5_263)), (qf6, .inl (cf6, 3002, .inl g6_263)), (qf7, .inl (cf7, 3002, .inl g7_263)), (h0, .inr (13, z_18)), (qf2, .inl (cf2, 3000, .inl f2))] := hD
        replace hK : va_K (dC, dI) vwCl [(cf4, .int), (cf5, .int), (cf6, .int), (cf7, .int), (cf2, .int)] s := hK
        obtain ⟨hwa_18, hln_18, hre_18⟩ := hw
        have hfk_18_2 : z_18[2]? = some (.ref qf2) := (hre_18 2 ).trans (hfk_16_2)
        have hfk_18_3 : z_18[3]? = some (.int v3) := (hre_18 3 ).trans (hfk_16_3)
        have hfk_18_4 : z_18[4]? = some (.ref qf4) := (hre_18 4 ).trans (hfk_16_4)
        have hfk_18_5 : z_18[5]? = some (.ref qf5) := (hre_18 5 ).trans (hfk_16_5)
        have hfk_18_6 : z_18[6]? = some (.ref qf6) := (hre_18 6 ).trans (hfk_16_6)
        have hfk_18_7 : z_18[7]? = some (.ref qf7) := (hre_18 7 ).trans (hfk_16_7)
        have hfk_18_8 : z_18[8]? = some (.int x8_263) := (hre_18 8 ).trans (hfk_16_8)
        have hrq_18 : ∀ j : Nat, j ≠ 8 → z_18[j]? = zs[j]? := fun j g8 => (hre_18 j ).trans (hrq_16 j g8)
        obtain rfl := hwa_18
        refine lv_bipush (v := 95) hx hb dX13_tokenize_283 (by decide) ?_
        refine lv_icmp_eq (tgt := 292) hx hb dX13_tokenize_285 (by decide) (fun c_51 => ?_) (fun c_51 => ?_)
        · rw [if_pos c_51] at hsp
          exact hj_292 (H, locs, ls, z_18, l1_263, l3_263, j4_263, g4_263, g5_263, g6_263, g7_263, x8_263) ⟨lv_sub hl [0, 1, 2, 3] rfl, hS, hD.sub (ws' := [(h0, .inr (13, z_18)), (qf4, .inl (cf4, 3008, .inl g4_263)), (qf5, .inl (cf5, 3002, .inl g5_263)), (qf6, .inl (cf6, 3002, .inl g6_263)), (qf7, .inl (cf7, 3002, .inl g7_263)), (qf2, .inl (cf2, 3000, .inl f2))]) [4, 0, 1, 2, 3, 5] (by decide) rfl, hP.sub (ws' := [(h0, .inr (13, z_18)), (qf4, .inl (cf4, 3008, .inl g4_263)), (qf5, .inl (cf5, 3002, .inl g5_263)), (qf6, .inl (cf6, 3002, .inl g6_263)), (qf7, .inl (cf7, 3002, .inl g7_263)), (qf2, .inl (cf2, 3000, .inl f2))]) [4, 0, 1, 2, 3, 5] rfl, hfk_18_2, hfk_18_3, hfk_18_4, hfk_18_5, hfk_18_6, hfk_18_7, hfk_18_8, hln_18, hrq_18, hsp⟩
        · rw [if_neg c_51] at hsp
          refine lv_iconst (v := 1) hx hb dX13_tokenize_288 (by decide) ?_
          refine lv_goto (tgt := 293) hx hb dX13_tokenize_289 (by decide) ?_
          exact hj_293 (H, locs, ls, z_18, l1_263, l3_263, j4_263, 1, g4_263, g5_263, g6_263, g7_263, x8_263) ⟨lv_sub hl [0, 1, 2, 3] rfl, hS, hD.sub (ws' := [(h0, .inr (13, z_18)), (qf4, .inl (cf4, 3008, .inl g4_263)), (qf5, .inl (cf5, 3002, .inl g5_263)), (qf6, .inl (cf6, 3002, .inl g6_263)), (qf7, .inl (cf7, 3002, .inl g7_263)), (qf2, .inl (cf2, 3000, .inl f2))]) [4, 0, 1, 2, 3, 5] (by decide) rfl, hP.sub (ws' := [(h0, .inr (13, z_18)), (qf4, .inl (cf4, 3008, .inl g4_263)), (qf5, .inl (cf5, 3002, .inl g5_263)), (qf6, .inl (cf6, 3002, .inl g6_263)), (qf7, .inl (cf7, 3002, .inl g7_263)), (qf2, .inl (cf2, 3000, .inl f2))]) [4, 0, 1, 2, 3, 5] rfl, hfk_18_2, hfk_18_3, hfk_18_4, hfk_18_5, hfk_18_6, hfk_18_7, hfk_18_8, hln_18, hrq_18, hsp⟩
      · rw [if_neg (by decide)] at hsp
        refine lv_if_ne (tgt := 292) hx hb dX13_tokenize_273 (by decide) (fun c_52 => ?_) (fun c_52 => (show False by revert c_52; decide).elim)
        exact hj_292 (H, locs, ls, z_16, l1_263, l3_263, j4_263, g4_263, g5_263, g6_263, g7_263, x8_263) ⟨lv_sub hl [0, 1, 2, 3] rfl, hS, hD.sub (ws' := [(h0, .inr (13, z_16)), (qf4, .inl (cf4, 3008, .inl g4_263)), (qf5, .inl (cf5, 3002, .inl g5_263)), (qf6, .inl (cf6, 3002, .inl g6_263)), (qf7, .inl (cf7, 3002, .inl g7_263)), (qf2, .inl (cf2, 3000, .inl f2))]) [4, 0, 1, 2, 3, 5] (by decide) rfl, hP.sub (ws' := [(h0, .inr (13, z_16)), (qf4, .inl (cf4, 3008, .inl g4_263)), (qf5, .inl (cf5, 3002, .inl g5_263)), (qf6, .inl (cf6, 3002, .inl g6_263)), (qf7, .inl (cf7, 3002, .inl g7_263)), (qf2, .inl (cf2, 3000, .inl f2))]) [4, 0, 1, 2, 3, 5] rfl, hfk_16_2, hfk_16_3, hfk_16_4, hfk_16_5, hfk_16_6, hfk_16_7, hfk_16_8, hln_16, hrq_16, hsp⟩
    intro hj_263
    refine jn_use (α := Heap × List Loc × Array Slot × List Value × Int32 × Int32 × Int32 × Int32 × (Nat → Int32) × (Nat → Int32) × (Nat → Int32) × (Nat → Int32) × Int32) (fun x9 => x9.1) (fun x9 => x9.2.1) (fun x9 => F0 m 169 x9.2.2.1 [.int (x9.2.2.2.2.2.2.2.1), .ref h0]) (fun x9 => match x9 with | (H, locs, ls, z169, l1_169, l3_169, l4_169, s0_169, g4_169, g5_169, g6_169, g7_169, x8_169) => lv_has ls 7 [(0, .ref h0), (1, .int l1_169), (3, .int l3_169), (4, .int l4_169)] ∧ va_S A s.heap H locs ∧ va_D A [(h0, .inr (13, z169)), (qf4, .inl (cf4, 3008, .inl g4_169)), (qf5, .inl (cf5, 3002, .inl g5_169)), (qf6, .inl (cf6, 3002, .inl g6_169)), (qf7, .inl (cf7, 3002, .inl g7_169)), (qf2, .inl (cf2, 3000, .inl f2))] ∧ va_P (dC, dI) vwCl [(h0, .inr (13, z169)), (qf4, .inl (cf4, 3008, .inl g4_169)), (qf5, .inl (cf5, 3002, .inl g5_169)), (qf6, .inl (cf6, 3002, .inl g6_169)), (qf7, .inl (cf7, 3002, .inl g7_169)), (qf2, .inl (cf2, 3000, .inl f2))] H ∧ z169[2]? = some (.ref qf2) ∧ z169[3]? = some (.int v3) ∧ z169[4]? = some (.ref qf4) ∧ z169[5]? = some (.ref qf5) ∧ z169[6]? = some (.ref qf6) ∧ z169[7]? = some (.ref qf7) ∧ z169[8]? = some (.int x8_169) ∧ z169.length = 155 ∧ (∀ j : Nat, j ≠ 8 → z169[j]? = zs[j]?) ∧ jn_vm_tokenize_169 nf v3 f4 f5 f6 f7 f2 nS352 fS352 (lp_vm_tokenize_7 nf n_7 v3 f4 f5 f6 f7 f2 nS352 fS352) l1_169 l3_169 l4_169 s0_169 g4_169 g5_169 g6_169 g7_169 x8_169 = some (o4, o5, o6, o7, w8)) ?_ ?_
    · intro x9 hJ9
      obtain ⟨H, locs, ls, z169, l1_169, l3_169, l4_169, s0_169, g4_169, g5_169, g6_169, g7_169, x8_169⟩ := x9
      obtain ⟨hl, hS, hD, hP, hfh_169_2, hfh_169_3, hfh_169_4, hfh_169_5, hfh_169_6, hfh_169_7, hfh_169_8, hlh_169, hrh_169, hsp⟩ := hJ9
      replace hl : lv_has ls 7 [(0, .ref h0), (1, .int l1_169), (3, .int l3_169), (4, .int l4_169)] := hl
      replace hS : va_S A s.heap H locs := hS
      replace hD : va_D A [(h0, .inr (13, z169)), (qf4, .inl (cf4, 3008, .inl g4_169)), (qf5, .inl (cf5, 3002, .inl g5_169)), (qf6, .inl (cf6, 3002, .inl g6_169)), (qf7, .inl (cf7, 3002, .inl g7_169)), (qf2, .inl (cf2, 3000, .inl f2))] := hD
      replace hP : va_P (dC, dI) vwCl [(h0, .inr (13, z169)), (qf4, .inl (cf4, 3008, .inl g4_169)), (qf5, .inl (cf5, 3002, .inl g5_169)), (qf6, .inl (cf6, 3002, .inl g6_169)), (qf7, .inl (cf7, 3002, .inl g7_169)), (qf2, .inl (cf2, 3000, .inl f2))] H := hP
      replace hsp : jn_vm_tokenize_169 nf v3 f4 f5 f6 f7 f2 nS352 fS352 (lp_vm_tokenize_7 nf n_7 v3 f4 f5 f6 f7 f2 nS352 fS352) l1_169 l3_169 l4_169 s0_169 g4_169 g5_169 g6_169 g7_169 x8_169 = some (o4, o5, o6, o7, w8) := hsp
      show W _ _ _ _ _ _ _ _ _ _ H locs _ _ _ (F0 m 169 ls [.int s0_169, .ref h0])
      unfold jn_vm_tokenize_169 at hsp
      try dsimp only at hsp
      refine lv_iload_n hx hb dX13_tokenize_169 rfl (lv_at hl 1 rfl) ?_
      refine lv_iload_n hx hb dX13_tokenize_170 rfl (lv_at hl 2 rfl) ?_
      refine lv_iload hx hb dX13_tokenize_171 (lv_at hl 3 rfl) ?_
      obtain ⟨⟨g915_0, g915_1, g915_2, g915_3, u15_4⟩, hu_15, hsp⟩ := ox_bind hsp
      try dsimp only at hsp
      have hPc := hP.sub (ws' := [(h0, .inr (13, z169)), (qf4, .inl (cf4, 3008, .inl g4_169)), (qf5, .inl (cf5, 3002, .inl g5_169)), (qf6, .inl (cf6, 3002, .inl g6_169)), (qf7, .inl (cf7, 3002, .inl g7_169))]) [0, 1, 2, 3, 4] rfl
      have hDc := hD.sub (ws' := [(h0, .inr (13, z169)), (qf4, .inl (cf4, 3008, .inl g4_169)), (qf5, .inl (cf5, 3002, .inl g5_169)), (qf6, .inl (cf6, 3002, .inl g6_169)), (qf7, .inl (cf7, 3002, .inl g7_169))]) [0, 1, 2, 3, 4] (by decide) rfl
      have hKc := hK.sub (tys' := [(cf4, .int), (cf5, .int), (cf6, .int), (cf7, .int)]) [0, 1, 2, 3] rfl
      have hFc := va_free (wc := [(h0, .inr (13, z169)), (qf4, .inl (cf4, 3008, .inl g4_169)), (qf5, .inl (cf5, 3002, .inl g5_169)), (qf6, .inl (cf6, 3002, .inl g6_169)), (qf7, .inl (cf7, 3002, .inl g7_169))]) hD hS hA [0, 1, 2, 3, 4] rfl
      refine va_callv (va_runV (As := [.int s0_169, .int l1_169, .int l3_169, .int l4_169]) (rest := []) ⟨hx, hb, hml, hown, hts⟩ (tm_token l dC dI H.size h0 z169 s0_169 l1_169 l3_169 l4_169 qf4 qf5 qf6 qf7 x8_169 cf4 g4_169 cf5 g5_169 cf6 g6_169 cf7 g7_169 nf g915_0 g915_1 g915_2 g915_3 u15_4 hlh_169 hfh_169_4 hfh_169_5 hfh_169_6 hfh_169_7 hfh_169_8 hu_15) (cwV 4 hts gv_h9_3 rfl rfl rfl (by decide +kernel) ⟨Nat.le_of_ble_eq_true rfl, Nat.le_of_ble_eq_true rfl⟩) ⟨fun a U g mk q => by obtain ⟨q0, q1, qP, qK, qD⟩ := q; exact ⟨q0, q1, qP, va_K.moved (u := U) (U := U.calling g mk a) (Vm.Alike.refl U.vm) qK, qD⟩, va_recv hKc hPc (ci := 13) (q0 := 0) rfl rfl, fun U hU hW => ⟨rfl, by rw [hU], by rw [hU]; exact hPc, va_K.moved hW.alike hKc, hDc.weaken (fun _ _ _ _ => trivial)⟩⟩ rfl rfl hl.1 rfl (lv_room (Nat.le_of_ble_eq_true rfl)) dX13_tokenize_173 ⟨Nat.le_of_ble_eq_true rfl, Nat.le_of_ble_eq_true rfl⟩) hS (fun q _ h => hFc q h) hFc ?_
      clear hS
      intro u t H1 locs ht hvm hw hB hz1 hk1 hS
      obtain ⟨z_15, rfl⟩ : ∃ z, z = u := ⟨_, rfl⟩
      obtain ⟨hP1, hK1, hD1⟩ := hB
      rw [ht] at hP1
      have hK1 := va_K.moved hvm.symm hK1
      try dsimp only at hw
      have hPD := va_join (wr := [(qf2, .inl (cf2, 3000, .inl f2))]) (w1 := [(h0, .inr (13, z_15)), (qf4, .inl (cf4, 3008, .inl g915_0)), (qf5, .inl (cf5, 3002, .inl g915_1)), (qf6, .inl (cf6, 3002, .inl g915_2)), (qf7, .inl (cf7, 3002, .inl g915_3))]) hP hD [0, 1, 2, 3, 4] [5] rfl rfl (by decide) (by decide) hk1 hFc hP1 hD1
      clear hP hD
      obtain ⟨hP, hD⟩ := hPD
      replace hK := (hK.sub (tys' := [(cf2, .int)]) [4] rfl).app hK1
      clear hPc hDc hKc hFc hP1 hK1 hD1 hz1 hk1 ht hvm
      generalize H1 = H at hP hS ⊢
      replace hP : va_P (dC, dI) vwCl [(qf2, .inl (cf2, 3000, .inl f2)), (h0, .inr (13, z_15)), (qf4, .inl (cf4, 3008, .inl g915_0)), (qf5, .inl (cf5, 3002, .inl g915_1)), (qf6, .inl (cf6, 3002, .inl g915_2)), (qf7, .inl (cf7, 3002, .inl g915_3))] H := hP
      replace hD : va_D A [(qf2, .inl (cf2, 3000, .inl f2)), (h0, .inr (13, z_15)), (qf4, .inl (cf4, 3008, .inl g915_0)), (qf5, .inl (cf5, 3002, .inl g915_1)), (qf6, .inl (cf6, 3002, .inl g915_2)), (qf7, .inl (cf7, 3002, .inl g915_3))] := hD
      replace hK : va_K (dC, dI) vwCl [(cf2, .int), (cf4, .int), (cf5, .int), (cf6, .int), (cf7, .int)] s := hK
      obtain ⟨hwa_15, hln_15, hre_15, hch_15_8⟩ := hw
      have hfk_15_2 : z_15[2]? = some (.ref qf2) := (hre_15 2 (by decide)).trans (hfh_169_2)
      have hfk_15_3 : z_15[3]? = some (.int v3) := (hre_15 3 (by decide)).trans (hfh_169_3)
      have hfk_15_4 : z_15[4]? = some (.ref qf4) := (hre_15 4 (by decide)).trans (hfh_169_4)
      have hfk_15_5 : z_15[5]? = some (.ref qf5) := (hre_15 5 (by decide)).trans (hfh_169_5)
      have hfk_15_6 : z_15[6]? = some (.ref qf6) := (hre_15 6 (by decide)).trans (hfh_169_6)
      have hfk_15_7 : z_15[7]? = some (.ref qf7) := (hre_15 7 (by decide)).trans (hfh_169_7)
      have hrq_15 : ∀ j : Nat, j ≠ 8 → z_15[j]? = zs[j]? := fun j g8 => (hre_15 j g8).trans (hrh_169 j g8)
      refine lv_goto (tgt := 378) hx hb dX13_tokenize_176 (by decide) ?_
      exact hj_378 (H, locs, ls, z_15, l1_169, l3_169, g915_0, g915_1, g915_2, g915_3, u15_4) ⟨lv_sub hl [0, 1, 2] rfl, hS, hD.sub (ws' := [(h0, .inr (13, z_15)), (qf4, .inl (cf4, 3008, .inl g915_0)), (qf5, .inl (cf5, 3002, .inl g915_1)), (qf6, .inl (cf6, 3002, .inl g915_2)), (qf7, .inl (cf7, 3002, .inl g915_3)), (qf2, .inl (cf2, 3000, .inl f2))]) [1, 2, 3, 4, 5, 0] (by decide) rfl, hP.sub (ws' := [(h0, .inr (13, z_15)), (qf4, .inl (cf4, 3008, .inl g915_0)), (qf5, .inl (cf5, 3002, .inl g915_1)), (qf6, .inl (cf6, 3002, .inl g915_2)), (qf7, .inl (cf7, 3002, .inl g915_3)), (qf2, .inl (cf2, 3000, .inl f2))]) [1, 2, 3, 4, 5, 0] rfl, hfk_15_2, hfk_15_3, hfk_15_4, hfk_15_5, hfk_15_6, hfk_15_7, hch_15_8, hln_15, hrq_15, hsp⟩
    intro hj_169
    refine jn_use (α := Heap × List Loc × Array Slot × List Value × Int32 × Int32 × (Nat → Int32) × (Nat → Int32) × (Nat → Int32) × (Nat → Int32) × Int32) (fun x9 => x9.1) (fun x9 => x9.2.1) (fun x9 => F0 m 83 x9.2.2.1 []) (fun x9 => match x9 with | (H, locs, ls, z83, l1_83, l2_83, g4_83, g5_83, g6_83, g7_83, x8_83) => lv_has ls 7 [(0, .ref h0), (1, .int l1_83), (2, .int l2_83)] ∧ va_S A s.heap H locs ∧ va_D A [(h0, .inr (13, z83)), (qf4, .inl (cf4, 3008, .inl g4_83)), (qf5, .inl (cf5, 3002, .inl g5_83)), (qf6, .inl (cf6, 3002, .inl g6_83)), (qf7, .inl (cf7, 3002, .inl g7_83)), (qf2, .inl (cf2, 3000, .inl f2))] ∧ va_P (dC, dI) vwCl [(h0, .inr (13, z83)), (qf4, .inl (cf4, 3008, .inl g4_83)), (qf5, .inl (cf5, 3002, .inl g5_83)), (qf6, .inl (cf6, 3002, .inl g6_83)), (qf7, .inl (cf7, 3002, .inl g7_83)), (qf2, .inl (cf2, 3000, .inl f2))] H ∧ z83[2]? = some (.ref qf2) ∧ z83[3]? = some (.int v3) ∧ z83[4]? = some (.ref qf4) ∧ z83[5]? = some (.ref qf5) ∧ z83[6]? = some (.ref qf6) ∧ z83[7]? = some (.ref qf7) ∧ z83[8]? = some (.int x8_83) ∧ z83.length = 155 ∧ (∀ j : Nat, j ≠ 8 → z83[j]? = zs[j]?) ∧ jn_vm_tokenize_83 nf v3 f4 f5 f6 f7 f2 nS352 fS352 (lp_vm_tokenize_7 nf n_7 v3 f4 f5 f6 f7 f2 nS352 fS352) l1_83 l2_83 g4_83 g5_83 g6_83 g7_83 x8_83 = some (o4, o5, o6, o7, w8)) ?_ ?_
    · intro x9 hJ9
      obtain ⟨H, locs, ls, z83, l1_83, l2_83, g4_83, g5_83, g6_83, g7_83, x8_83⟩ := x9
      obtain ⟨hl, hS, hD, hP, hfh_83_2, hfh_83_3, hfh_83_4, hfh_83_5, hfh_83_6, hfh_83_7, hfh_83_8, hlh_83, hrh_83, hsp⟩ := hJ9
      replace hl : lv_has ls 7 [(0, .ref h0), (1, .int l1_83), (2, .int l2_83)] := hl
      replace hS : va_S A s.heap H locs := hS
      replace hD : va_D A [(h0, .inr (13, z83)), (qf4, .inl (cf4, 3008, .inl g4_83)), (qf5, .inl (cf5, 3002, .inl g5_83)), (qf6, .inl (cf6, 3002, .inl g6_83)), (qf7, .inl (cf7, 3002, .inl g7_83)), (qf2, .inl (cf2, 3000, .inl f2))] := hD
      replace hP : va_P (dC, dI) vwCl [(h0, .inr (13, z83)), (qf4, .inl (cf4, 3008, .inl g4_83)), (qf5, .inl (cf5, 3002, .inl g5_83)), (qf6, .inl (cf6, 3002, .inl g6_83)), (qf7, .inl (cf7, 3002, .inl g7_83)), (qf2, .inl (cf2, 3000, .inl f2))] H := hP
      replace hsp : jn_vm_tokenize_83 nf v3 f4 f5 f6 f7 f2 nS352 fS352 (lp_vm_tokenize_7 nf n_7 v3 f4 f5 f6 f7 f2 nS352 fS352) l1_83 l2_83 g4_83 g5_83 g6_83 g7_83 x8_83 = some (o4, o5, o6, o7, w8) := hsp
      show W _ _ _ _ _ _ _ _ _ _ H locs _ _ _ (F0 m 83 ls [])
      unfold jn_vm_tokenize_83 at hsp
      try dsimp only at hsp
      refine lv_iconst (v := 0) hx hb dX13_tokenize_83 (by decide) ?_
      refine lv_istore_n (lv' := [(3, .int 0), (0, .ref h0), (1, .int l1_83), (2, .int l2_83)]) hx hb dX13_tokenize_84 rfl hl (by decide) rfl (fun ls hl => ?_)
      refine lv_iload_n hx hb dX13_tokenize_85 rfl (lv_at hl 3 rfl) ?_
      obtain ⟨u3_0, hu_3, hsp⟩ := ox_bind hsp
      try dsimp only at hsp
      have hPc := hP.sub (ws' := []) [] rfl
      have hDc := hD.sub (ws' := []) [] (by decide) rfl
      have hKc := hK.sub (tys' := []) [] rfl
      have hFc := va_free (wc := []) hD hS hA [] rfl
      refine va_calli (va_runS (As := [.int l2_83]) (rest := []) ⟨hx, hb, hml, hown, hts⟩ (tm_isLetter l dC dI H.size l2_83 nf u3_0 hu_3) (va_cwS 1 hts gv_h9_4 rfl rfl rfl (by decide +kernel) ⟨Nat.le_of_ble_eq_true rfl, Nat.le_of_ble_eq_true rfl⟩) ⟨fun a U g mk q => by obtain ⟨q0, q1, qP, qK, qD⟩ := q; exact ⟨q0, q1, qP, va_K.moved (u := U) (U := U.calling g mk a) (Vm.Alike.refl U.vm) qK, qD⟩, fun U hU hW => ⟨rfl, by rw [hU], by rw [hU]; exact hPc, va_K.moved hW.alike hKc, hDc.weaken (fun _ _ _ _ => trivial)⟩⟩ rfl rfl hl.1 rfl (lv_room (Nat.le_of_ble_eq_true rfl)) dX13_tokenize_86 ⟨Nat.le_of_ble_eq_true rfl, Nat.le_of_ble_eq_true rfl⟩) hS (fun q _ h => hFc q h) hFc ?_
      clear hS
      intro r_15 u t H1 locs ht hvm hw hB hz1 hk1 hS
      obtain ⟨⟩ := u
      obtain ⟨hP1, hK1, hD1⟩ := hB
      rw [ht] at hP1
      have hK1 := va_K.moved hvm.symm hK1
      try dsimp only at hw
      have hPD := va_join (wr := [(h0, .inr (13, z83)), (qf4, .inl (cf4, 3008, .inl g4_83)), (qf5, .inl (cf5, 3002, .inl g5_83)), (qf6, .inl (cf6, 3002, .inl g6_83)), (qf7, .inl (cf7, 3002, .inl g7_83)), (qf2, .inl (cf2, 3000, .inl f2))]) (w1 := []) hP hD [] [0, 1, 2, 3, 4, 5] rfl rfl (by decide) (by decide) hk1 hFc hP1 hD1
      clear hP hD
      obtain ⟨hP, hD⟩ := hPD
      replace hK := (hK.sub (tys' := [(cf4, .int), (cf5, .int), (cf6, .int), (cf7, .int), (cf2, .int)]) [0, 1, 2, 3, 4] rfl).app hK1
      clear hPc hDc hKc hFc hP1 hK1 hD1 hz1 hk1 ht hvm
      generalize H1 = H at hP hS ⊢
      replace hP : va_P (dC, dI) vwCl [(h0, .inr (13, z83)), (qf4, .inl (cf4, 3008, .inl g4_83)), (qf5, .inl (cf5, 3002, .inl g5_83)), (qf6, .inl (cf6, 3002, .inl g6_83)), (qf7, .inl (cf7, 3002, .inl g7_83)), (qf2, .inl (cf2, 3000, .inl f2))] H := hP
      replace hD : va_D A [(h0, .inr (13, z83)), (qf4, .inl (cf4, 3008, .inl g4_83)), (qf5, .inl (cf5, 3002, .inl g5_83)), (qf6, .inl (cf6, 3002, .inl g6_83)), (qf7, .inl (cf7, 3002, .inl g7_83)), (qf2, .inl (cf2, 3000, .inl f2))] := hD
      replace hK : va_K (dC, dI) vwCl [(cf4, .int), (cf5, .int), (cf6, .int), (cf7, .int), (cf2, .int)] s := hK
      obtain ⟨rfl, hz_3⟩ := hw
      rcases hz_3 with rfl | rfl
      · rw [if_pos rfl] at hsp
        refine lv_if_eq (tgt := 179) hx hb dX13_tokenize_89 (by decide) (fun c_16 => ?_) (fun c_16 => (show False by revert c_16; decide).elim)
        refine lv_iload_n hx hb dX13_tokenize_179 rfl (lv_at hl 3 rfl) ?_
        obtain ⟨u4_0, hu_4, hsp⟩ := ox_bind hsp
        try dsimp only at hsp
        have hPc := hP.sub (ws' := []) [] rfl
        have hDc := hD.sub (ws' := []) [] (by decide) rfl
        have hKc := hK.sub (tys' := []) [] rfl
        have hFc := va_free (wc := []) hD hS hA [] rfl
        refine va_calli (va_runS (As := [.int l2_83]) (rest := []) ⟨hx, hb, hml, hown, hts⟩ (tm_isDigit l dC dI H.size l2_83 nf u4_0 hu_4) (va_cwS 1 hts gv_h9_5 rfl rfl rfl (by decide +kernel) ⟨Nat.le_of_ble_eq_true rfl, Nat.le_of_ble_eq_true rfl⟩) ⟨fun a U g mk q => by obtain ⟨q0, q1, qP, qK, qD⟩ := q; exact ⟨q0, q1, qP, va_K.moved (u := U) (U := U.calling g mk a) (Vm.Alike.refl U.vm) qK, qD⟩, fun U hU hW => ⟨rfl, by rw [hU], by rw [hU]; exact hPc, va_K.moved hW.alike hKc, hDc.weaken (fun _ _ _ _ => trivial)⟩⟩ rfl rfl hl.1 rfl (lv_room (Nat.le_of_ble_eq_true rfl)) dX13_tokenize_180 ⟨Nat.le_of_ble_eq_true rfl, Nat.le_of_ble_eq_true rfl⟩) hS (fun q _ h => hFc q h) hFc ?_
        clear hS
        intro r_17 u t H1 locs ht hvm hw hB hz1 hk1 hS
        obtain ⟨⟩ := u
        obtain ⟨hP1, hK1, hD1⟩ := hB
        rw [ht] at hP1
        have hK1 := va_K.moved hvm.symm hK1
        try dsimp only at hw
        have hPD := va_join (wr := [(h0, .inr (13, z83)), (qf4, .inl (cf4, 3008, .inl g4_83)), (qf5, .inl (cf5, 3002, .inl g5_83)), (qf6, .inl (cf6, 3002, .inl g6_83)), (qf7, .inl (cf7, 3002, .inl g7_83)), (qf2, .inl (cf2, 3000, .inl f2))]) (w1 := []) hP hD [] [0, 1, 2, 3, 4, 5] rfl rfl (by decide) (by decide) hk1 hFc hP1 hD1
        clear hP hD
        obtain ⟨hP, hD⟩ := hPD
        replace hK := (hK.sub (tys' := [(cf4, .int), (cf5, .int), (cf6, .int), (cf7, .int), (cf2, .int)]) [0, 1, 2, 3, 4] rfl).app hK1
        clear hPc hDc hKc hFc hP1 hK1 hD1 hz1 hk1 ht hvm
        generalize H1 = H at hP hS ⊢
        replace hP : va_P (dC, dI) vwCl [(h0, .inr (13, z83)), (qf4, .inl (cf4, 3008, .inl g4_83)), (qf5, .inl (cf5, 3002, .inl g5_83)), (qf6, .inl (cf6, 3002, .inl g6_83)), (qf7, .inl (cf7, 3002, .inl g7_83)), (qf2, .inl (cf2, 3000, .inl f2))] H := hP
        replace hD : va_D A [(h0, .inr (13, z83)), (qf4, .inl (cf4, 3008, .inl g4_83)), (qf5, .inl (cf5, 3002, .inl g5_83)), (qf6, .inl (cf6, 3002, .inl g6_83)), (qf7, .inl (cf7, 3002, .inl g7_83)), (qf2, .inl (cf2, 3000, .inl f2))] := hD
        replace hK : va_K (dC, dI) vwCl [(cf4, .int), (cf5, .int), (cf6, .int), (cf7, .int), (cf2, .int)] s := hK
        obtain ⟨rfl, hz_4⟩ := hw
        rcases hz_4 with rfl | rfl
        · rw [if_pos rfl] at hsp
          refine lv_if_eq (tgt := 318) hx hb dX13_tokenize_183 (by decide) (fun c_18 => ?_) (fun c_18 => (show False by revert c_18; decide).elim)
          refine lv_aload_n hx hb dX13_tokenize_318 rfl (lv_at hl 1 rfl) ?_
          refine lv_iload_n hx hb dX13_tokenize_319 rfl (lv_at hl 2 rfl) ?_
          obtain ⟨u5_0, hu_5, hsp⟩ := ox_bind hsp
          try dsimp only at hsp
          have hPc := hP.sub (ws' := [(h0, .inr (13, z83)), (qf2, .inl (cf2, 3000, .inl f2))]) [0, 5] rfl
          have hDc := hD.sub (ws' := [(h0, .inr (13, z83)), (qf2, .inl (cf2, 3000, .inl f2))]) [0, 5] (by decide) rfl
          have hKc := hK.sub (tys' := [(cf2, .int)]) [4] rfl
          have hFc := va_free (wc := [(h0, .inr (13, z83)), (qf2, .inl (cf2, 3000, .inl f2))]) hD hS hA [0, 5] rfl
          refine va_calli (va_runV (As := [.int l1_83]) (rest := []) ⟨hx, hb, hml, hown, hts⟩ (vm_signAt l dC dI H.size h0 z83 l1_83 qf2 v3 cf2 f2 nf u5_0 hlh_83 hfh_83_2 hfh_83_3 hu_5) (cwV 1 hts gv_h9_6 rfl rfl rfl (by decide +kernel) ⟨Nat.le_of_ble_eq_true rfl, Nat.le_of_ble_eq_true rfl⟩) ⟨fun a U g mk q => by obtain ⟨q0, q1, qP, qK, qD⟩ := q; exact ⟨q0, q1, qP, va_K.moved (u := U) (U := U.calling g mk a) (Vm.Alike.refl U.vm) qK, qD⟩, va_recv hKc hPc (ci := 13) (q0 := 0) rfl rfl, fun U hU hW => ⟨rfl, by rw [hU], by rw [hU]; exact hPc, va_K.moved hW.alike hKc, hDc.weaken (fun _ _ _ _ => trivial)⟩⟩ rfl rfl hl.1 rfl (lv_room (Nat.le_of_ble_eq_true rfl)) dX13_tokenize_320 ⟨Nat.le_of_ble_eq_true rfl, Nat.le_of_ble_eq_true rfl⟩) hS (fun q _ h => hFc q h) hFc ?_
          clear hS
          intro r_19 u t H1 locs ht hvm hw hB hz1 hk1 hS
          obtain ⟨z_5, rfl⟩ : ∃ z, z = u := ⟨_, rfl⟩
          obtain ⟨hP1, hK1, hD1⟩ := hB
          rw [ht] at hP1
          have hK1 := va_K.moved hvm.symm hK1
          try dsimp only at hw
          have hPD := va_join (wr := [(qf4, .inl (cf4, 3008, .inl g4_83)), (qf5, .inl (cf5, 3002, .inl g5_83)), (qf6, .inl (cf6, 3002, .inl g6_83)), (qf7, .inl (cf7, 3002, .inl g7_83))]) (w1 := [(h0, .inr (13, z_5)), (qf2, .inl (cf2, 3000, .inl f2))]) hP hD [0, 5] [1, 2, 3, 4] rfl rfl (by decide) (by decide) hk1 hFc hP1 hD1
          clear hP hD
          obtain ⟨hP, hD⟩ := hPD
          replace hK := (hK.sub (tys' := [(cf4, .int), (cf5, .int), (cf6, .int), (cf7, .int)]) [0, 1, 2, 3] rfl).app hK1
          clear hPc hDc hKc hFc hP1 hK1 hD1 hz1 hk1 ht hvm
          generalize H1 = H at hP hS ⊢
          replace hP : va_P (dC, dI) vwCl [(qf4, .inl (cf4, 3008, .inl g4_83)), (qf5, .inl (cf5, 3002, .inl g5_83)), (qf6, .inl (cf6, 3002, .inl g6_83)), (qf7, .inl (cf7, 3002, .inl g7_83)), (h0, .inr (13, z_5)), (qf2, .inl (cf2, 3000, .inl f2))] H := hP
          replace hD : va_D A [(qf4, .inl (cf4, 3008, .inl g4_83)), (qf5, .inl (cf5, 3002, .inl g5_83)), (qf6, .inl (cf6, 3002, .inl g6_83)), (qf7, .inl (cf7, 3002, .inl g7_83)), (h0, .inr (13, z_5)), (qf2, .inl (cf2, 3000, .inl f2))] := hD
          replace hK : va_K (dC, dI) vwCl [(cf4, .int), (cf5, .int), (cf6, .int), (cf7, .int), (cf2, .int)] s := hK
          obtain ⟨hwa_5, hln_5, hre_5⟩ := hw
          have hfk_5_2 : z_5[2]? = some (.ref qf2) := (hre_5 2 ).trans (hfh_83_2)
          have hfk_5_3 : z_5[3]? = some (.int v3) := (hre_5 3 ).trans (hfh_83_3)
          have hfk_5_4 : z_5[4]? = some (.ref qf4) := (hre_5 4 ).trans (hfh_83_4)
          have hfk_5_5 : z_5[5]? = some (.ref qf5) := (hre_5 5 ).trans (hfh_83_5)
          have hfk_5_6 : z_5[6]? = some (.ref qf6) := (hre_5 6 ).trans (hfh_83_6)
          have hfk_5_7 : z_5[7]? = some (.ref qf7) := (hre_5 7 ).trans (hfh_83_7)
          have hfk_5_8 : z_5[8]? = some (.int x8_83) := (hre_5 8 ).trans (hfh_83_8)
          have hrq_5 : ∀ j : Nat, j ≠ 8 → z_5[j]? = zs[j]? := fun j g8 => (hre_5 j ).trans (hrh_83 j g8)
          obtain rfl := hwa_5
          refine lv_istore_n (lv' := [(3, .int u5_0), (0, .ref h0), (1, .int l1_83), (2, .int l2_83)]) hx hb dX13_tokenize_323 rfl hl (by decide) rfl (fun ls hl => ?_)
          refine lv_iconst (v := 0) hx hb dX13_tokenize_324 (by decide) ?_
          refine lv_istore (lv' := [(4, .int 0), (3, .int u5_0), (0, .ref h0), (1, .int l1_83), (2, .int l2_83)]) hx hb dX13_tokenize_325 hl (by decide) rfl (fun ls hl => ?_)
          refine lv_iconst (v := 0) hx hb dX13_tokenize_327 (by decide) ?_
          refine lv_istore (lv' := [(5, .int 0), (4, .int 0), (3, .int u5_0), (0, .ref h0), (1, .int l1_83), (2, .int l2_83)]) hx hb dX13_tokenize_328 hl (by decide) rfl (fun ls hl => ?_)
          replace hl : lv_has ls 7 [(5, .int 0), (4, .int 0), (3, .int u5_0), (0, .ref h0), (1, .int l1_83)] := lv_sub hl [0, 1, 2, 3, 4] rfl
          replace hP := hP.sub (ws' := [(h0, .inr (13, z_5)), (qf4, .inl (cf4, 3008, .inl g4_83)), (qf5, .inl (cf5, 3002, .inl g5_83)), (qf6, .inl (cf6, 3002, .inl g6_83)), (qf7, .inl (cf7, 3002, .inl g7_83)), (qf2, .inl (cf2, 3000, .inl f2))]) [4, 0, 1, 2, 3, 5] rfl
          replace hD := hD.sub (ws' := [(h0, .inr (13, z_5)), (qf4, .inl (cf4, 3008, .inl g4_83)), (qf5, .inl (cf5, 3002, .inl g5_83)), (qf6, .inl (cf6, 3002, .inl g6_83)), (qf7, .inl (cf7, 3002, .inl g7_83)), (qf2, .inl (cf2, 3000, .inl f2))]) [4, 0, 1, 2, 3, 5] (by decide) rfl
          replace hK := hK.sub (tys' := [(cf4, .int), (cf5, .int), (cf6, .int), (cf7, .int), (cf2, .int)]) [0, 1, 2, 3, 4] rfl
          obtain ⟨n_330, hn_330⟩ : ∃ z : Nat, z = nf := ⟨_, rfl⟩
          obtain ⟨l1_330, el1_330⟩ : ∃ z : Int32, z = l1_83 := ⟨_, rfl⟩
          obtain ⟨l3_330, el3_330⟩ : ∃ z : Int32, z = u5_0 := ⟨_, rfl⟩
          obtain ⟨l4_330, el4_330⟩ : ∃ z : Int32, z = 0 := ⟨_, rfl⟩
          obtain ⟨l5_330, el5_330⟩ : ∃ z : Int32, z = 0 := ⟨_, rfl⟩
          obtain ⟨g4_330, eg4_330⟩ : ∃ z : Nat → Int32, z = g4_83 := ⟨_, rfl⟩
          obtain ⟨g5_330, eg5_330⟩ : ∃ z : Nat → Int32, z = g5_83 := ⟨_, rfl⟩
          obtain ⟨g6_330, eg6_330⟩ : ∃ z : Nat → Int32, z = g6_83 := ⟨_, rfl⟩
          obtain ⟨g7_330, eg7_330⟩ : ∃ z : Nat → Int32, z = g7_83 := ⟨_, rfl⟩
          obtain ⟨x8_330, ex8_330⟩ : ∃ z : Int32, z = x8_83 := ⟨_, rfl⟩
          replace hsp : lp_vm_tokenize_330 nf n_330 v3 f4 f5 f6 f7 f2 nS352 fS352 (lp_vm_tokenize_7 nf n_7 v3 f4 f5 f6 f7 f2 nS352 fS352) l1_330 l3_330 l4_330 l5_330 g4_330 g5_330 g6_330 g7_330 x8_330 = some (o4, o5, o6, o7, w8) := by rw [hn_330, el1_330, el3_330, el4_330, el5_330, eg4_330, eg5_330, eg6_330, eg7_330, ex8_330]; exact hsp
          replace hl : lv_has ls 7 [(5, .int l5_330), (4, .int l4_330), (3, .int l3_330), (0, .ref h0), (1, .int l1_330)] := by rw [el1_330, el3_330, el4_330, el5_330]; exact hl
          obtain ⟨z330, ez330⟩ : ∃ z : List Value, z = z_5 := ⟨_, rfl⟩
          have hfh_330_2 : z330[2]? = some (.ref qf2) := by rw [ez330]; exact hfk_5_2
          have hfh_330_3 : z330[3]? = some (.int v3) := by rw [ez330]; exact hfk_5_3
          have hfh_330_4 : z330[4]? = some (.ref qf4) := by rw [ez330]; exact hfk_5_4
          have hfh_330_5 : z330[5]? = some (.ref qf5) := by rw [ez330]; exact hfk_5_5
          have hfh_330_6 : z330[6]? = some (.ref qf6) := by rw [ez330]; exact hfk_5_6
          have hfh_330_7 : z330[7]? = some (.ref qf7) := by rw [ez330]; exact hfk_5_7
          have hfh_330_8 : z330[8]? = some (.int x8_330) := by rw [ez330, ex8_330]; exact hfk_5_8
          have hlh_330 : z330.length = 155 := by rw [ez330]; exact hln_5
          have hrh_330 : ∀ j : Nat, j ≠ 8 → z330[j]? = zs[j]? := by rw [ez330]; exact hrq_5
          replace hP : va_P (dC, dI) vwCl [(h0, .inr (13, z330)), (qf4, .inl (cf4, 3008, .inl g4_330)), (qf5, .inl (cf5, 3002, .inl g5_330)), (qf6, .inl (cf6, 3002, .inl g6_330)), (qf7, .inl (cf7, 3002, .inl g7_330)), (qf2, .inl (cf2, 3000, .inl f2))] H := by rw [ez330, eg4_330, eg5_330, eg6_330, eg7_330]; exact hP
          replace hD : va_D A [(h0, .inr (13, z330)), (qf4, .inl (cf4, 3008, .inl g4_330)), (qf5, .inl (cf5, 3002, .inl g5_330)), (qf6, .inl (cf6, 3002, .inl g6_330)), (qf7, .inl (cf7, 3002, .inl g7_330)), (qf2, .inl (cf2, 3000, .inl f2))] := by rw [ez330, eg4_330, eg5_330, eg6_330, eg7_330]; exact hD
          clear hn_330 ez330 el1_330 el3_330 el4_330 el5_330 eg4_330 eg5_330 eg6_330 eg7_330 ex8_330
          try clear hlo
          try clear hH
          revert hsp
          revert hP
          revert hD
          revert hS
          revert hl
          revert hrh_330
          revert hlh_330
          revert hfh_330_8
          revert hfh_330_7
          revert hfh_330_6
          revert hfh_330_5
          revert hfh_330_4
          revert hfh_330_3
          revert hfh_330_2
          revert x8_330
          revert g7_330
          revert g6_330
          revert g5_330
          revert g4_330
          revert l5_330
          revert l4_330
          revert l3_330
          revert l1_330
          revert z330
          revert ls
          revert locs
          revert H
          induction n_330 with
          | zero => intro H locs ls z330 l1_330 l3_330 l4_330 l5_330 g4_330 g5_330 g6_330 g7_330 x8_330 hfh_330_2 hfh_330_3 hfh_330_4 hfh_330_5 hfh_330_6 hfh_330_7 hfh_330_8 hlh_330 hrh_330 hl hS hD hP hsp; unfold lp_vm_tokenize_330 at hsp; cases hsp
          | succ n_330 ih_330 =>
            intro H locs ls z330 l1_330 l3_330 l4_330 l5_330 g4_330 g5_330 g6_330 g7_330 x8_330 hfh_330_2 hfh_330_3 hfh_330_4 hfh_330_5 hfh_330_6 hfh_330_7 hfh_330_8 hlh_330 hrh_330 hl hS hD hP hsp
            unfold lp_vm_tokenize_330 at hsp
            try dsimp only at hsp
            refine lv_iload hx hb dX13_tokenize_330 (lv_at hl 0 rfl) ?_
            refine lv_iload_n hx hb dX13_tokenize_332 rfl (lv_at hl 2 rfl) ?_
            refine lv_icmp_ge (tgt := 360) hx hb dX13_tokenize_333 (by decide) (fun c_20 => ?_) (fun c_20 => ?_)
            · rw [if_pos c_20] at hsp
              refine lv_aload_n hx hb dX13_tokenize_360 rfl (lv_at hl 3 rfl) ?_
              refine lv_iload_n hx hb dX13_tokenize_361 rfl (lv_at hl 2 rfl) ?_
              refine lv_if_le (tgt := 369) hx hb dX13_tokenize_362 (by decide) (fun c_21 => ?_) (fun c_21 => ?_)
              · rw [if_pos c_21] at hsp
                refine lv_bipush (v := 6) hx hb dX13_tokenize_369 (by decide) ?_
                exact hj_371 (H, locs, ls, z330, l1_330, l3_330, l4_330, 6, g4_330, g5_330, g6_330, g7_330, x8_330) ⟨lv_sub hl [3, 4, 2, 1] rfl, hS, hD.sub (ws' := [(h0, .inr (13, z330)), (qf4, .inl (cf4, 3008, .inl g4_330)), (qf5, .inl (cf5, 3002, .inl g5_330)), (qf6, .inl (cf6, 3002, .inl g6_330)), (qf7, .inl (cf7, 3002, .inl g7_330)), (qf2, .inl (cf2, 3000, .inl f2))]) [0, 1, 2, 3, 4, 5] (by decide) rfl, hP.sub (ws' := [(h0, .inr (13, z330)), (qf4, .inl (cf4, 3008, .inl g4_330)), (qf5, .inl (cf5, 3002, .inl g5_330)), (qf6, .inl (cf6, 3002, .inl g6_330)), (qf7, .inl (cf7, 3002, .inl g7_330)), (qf2, .inl (cf2, 3000, .inl f2))]) [0, 1, 2, 3, 4, 5] rfl, hfh_330_2, hfh_330_3, hfh_330_4, hfh_330_5, hfh_330_6, hfh_330_7, hfh_330_8, hlh_330, hrh_330, hsp⟩
              · rw [if_neg c_21] at hsp
                refine lv_iconst (v := 4) hx hb dX13_tokenize_365 (by decide) ?_
                refine lv_goto (tgt := 371) hx hb dX13_tokenize_366 (by decide) ?_
                exact hj_371 (H, locs, ls, z330, l1_330, l3_330, l4_330, 4, g4_330, g5_330, g6_330, g7_330, x8_330) ⟨lv_sub hl [3, 4, 2, 1] rfl, hS, hD.sub (ws' := [(h0, .inr (13, z330)), (qf4, .inl (cf4, 3008, .inl g4_330)), (qf5, .inl (cf5, 3002, .inl g5_330)), (qf6, .inl (cf6, 3002, .inl g6_330)), (qf7, .inl (cf7, 3002, .inl g7_330)), (qf2, .inl (cf2, 3000, .inl f2))]) [0, 1, 2, 3, 4, 5] (by decide) rfl, hP.sub (ws' := [(h0, .inr (13, z330)), (qf4, .inl (cf4, 3008, .inl g4_330)), (qf5, .inl (cf5, 3002, .inl g5_330)), (qf6, .inl (cf6, 3002, .inl g6_330)), (qf7, .inl (cf7, 3002, .inl g7_330)), (qf2, .inl (cf2, 3000, .inl f2))]) [0, 1, 2, 3, 4, 5] rfl, hfh_330_2, hfh_330_3, hfh_330_4, hfh_330_5, hfh_330_6, hfh_330_7, hfh_330_8, hlh_330, hrh_330, hsp⟩
            · rw [if_neg c_20] at hsp
              refine lv_sipush (v := 128) hx hb dX13_tokenize_336 (by decide) ?_
              refine lv_iload hx hb dX13_tokenize_339 (lv_at hl 1 rfl) ?_
              refine lv_imul hx hb dX13_tokenize_341 ?_
              refine lv_aload_n hx hb dX13_tokenize_342 rfl (lv_at hl 3 rfl) ?_
              refine va_get (D := (dC, dI)) (ci := 13) (v := .ref qf2) (C := RX13) (T := TX13) (N := 155) hx hb hts uV_h9_X13 hown hK hP 0 rfl rfl 2 (by decide) (hts (.fieldLink RX13 13 "ClassMillModel" "text" "[I") mw_h9_7) (fun _ h9 => h9) hfh_330_2 dX13_tokenize_343 ?_
              refine lv_iload_n hx hb dX13_tokenize_346 rfl (lv_at hl 4 rfl) ?_
              refine lv_iload hx hb dX13_tokenize_347 (lv_at hl 0 rfl) ?_
              refine lv_iadd hx hb dX13_tokenize_349 ?_
              obtain ⟨hi_22, hsp⟩ := ox_in hsp
              refine va_iald hx hb hK hP 5 4 rfl rfl (i := (l1_330 + l5_330)) hi_22 dX13_tokenize_350 ?_
              refine lv_iadd hx hb dX13_tokenize_351 ?_
              refine lv_istore (lv' := [(4, .int ((128 * l4_330) + (f2 ((l1_330 + l5_330) : Int32).toNatClampNeg))), (5, .int l5_330), (3, .int l3_330), (0, .ref h0), (1, .int l1_330)]) hx hb dX13_tokenize_352 hl (by decide) rfl (fun ls hl => ?_)
              refine lv_iinc (v := (l5_330 + 1)) (lv' := [(5, .int (l5_330 + 1)), (4, .int ((128 * l4_330) + (f2 ((l1_330 + l5_330) : Int32).toNatClampNeg))), (3, .int l3_330), (0, .ref h0), (1, .int l1_330)]) hx hb dX13_tokenize_354 hl (k := 1) rfl rfl (by decide) rfl (fun ls hl => ?_)
              refine lv_goto (tgt := 330) hx hb dX13_tokenize_357 (by decide) ?_
              exact ih_330 H locs ls z330 l1_330 l3_330 ((128 * l4_330) + (f2 ((l1_330 + l5_330) : Int32).toNatClampNeg)) (l5_330 + 1) g4_330 g5_330 g6_330 g7_330 x8_330 (hfh_330_2) (hfh_330_3) (hfh_330_4) (hfh_330_5) (hfh_330_6) (hfh_330_7) (hfh_330_8) hlh_330 hrh_330 (lv_sub hl [0, 1, 2, 3, 4] rfl) hS (hD.sub (ws' := [(h0, .inr (13, z330)), (qf4, .inl (cf4, 3008, .inl g4_330)), (qf5, .inl (cf5, 3002, .inl g5_330)), (qf6, .inl (cf6, 3002, .inl g6_330)), (qf7, .inl (cf7, 3002, .inl g7_330)), (qf2, .inl (cf2, 3000, .inl f2))]) [0, 1, 2, 3, 4, 5] (by decide) rfl) (hP.sub (ws' := [(h0, .inr (13, z330)), (qf4, .inl (cf4, 3008, .inl g4_330)), (qf5, .inl (cf5, 3002, .inl g5_330)), (qf6, .inl (cf6, 3002, .inl g6_330)), (qf7, .inl (cf7, 3002, .inl g7_330)), (qf2, .inl (cf2, 3000, .inl f2))]) [0, 1, 2, 3, 4, 5] rfl) hsp
        · rw [if_neg (by decide)] at hsp
          refine lv_if_eq (tgt := 318) hx hb dX13_tokenize_183 (by decide) (fun c_23 => (show False by revert c_23; decide).elim) (fun c_23 => ?_)
          refine lv_lconst (v := 0) hx hb dX13_tokenize_186 (by decide) ?_
          refine lv_lstore (lv' := [(4, .long 0), (3, .int 0), (0, .ref h0), (1, .int l1_83), (2, .int l2_83)]) hx hb dX13_tokenize_187 hl (by decide) rfl (fun ls hl => ?_)
          replace hl : lv_has ls 7 [(4, .long 0), (3, .int 0), (0, .ref h0), (1, .int l1_83), (2, .int l2_83)] := lv_sub hl [0, 1, 2, 3, 4] rfl
          replace hP := hP.sub (ws' := [(h0, .inr (13, z83)), (qf4, .inl (cf4, 3008, .inl g4_83)), (qf5, .inl (cf5, 3002, .inl g5_83)), (qf6, .inl (cf6, 3002, .inl g6_83)), (qf7, .inl (cf7, 3002, .inl g7_83)), (qf2, .inl (cf2, 3000, .inl f2))]) [0, 1, 2, 3, 4, 5] rfl
          replace hD := hD.sub (ws' := [(h0, .inr (13, z83)), (qf4, .inl (cf4, 3008, .inl g4_83)), (qf5, .inl (cf5, 3002, .inl g5_83)), (qf6, .inl (cf6, 3002, .inl g6_83)), (qf7, .inl (cf7, 3002, .inl g7_83)), (qf2, .inl (cf2, 3000, .inl f2))]) [0, 1, 2, 3, 4, 5] (by decide) rfl
          replace hK := hK.sub (tys' := [(cf4, .int), (cf5, .int), (cf6, .int), (cf7, .int), (cf2, .int)]) [0, 1, 2, 3, 4] rfl
          obtain ⟨n_189, hn_189⟩ : ∃ z : Nat, z = nf := ⟨_, rfl⟩
          obtain ⟨l1_189, el1_189⟩ : ∃ z : Int32, z = l1_83 := ⟨_, rfl⟩
          obtain ⟨l2_189, el2_189⟩ : ∃ z : Int32, z = l2_83 := ⟨_, rfl⟩
          obtain ⟨l3_189, el3_189⟩ : ∃ z : Int32, z = 0 := ⟨_, rfl⟩
          obtain ⟨j4_189, ej4_189⟩ : ∃ z : Int64, z = 0 := ⟨_, rfl⟩
          obtain ⟨g4_189, eg4_189⟩ : ∃ z : Nat → Int32, z = g4_83 := ⟨_, rfl⟩
          obtain ⟨g5_189, eg5_189⟩ : ∃ z : Nat → Int32, z = g5_83 := ⟨_, rfl⟩
          obtain ⟨g6_189, eg6_189⟩ : ∃ z : Nat → Int32, z = g6_83 := ⟨_, rfl⟩
          obtain ⟨g7_189, eg7_189⟩ : ∃ z : Nat → Int32, z = g7_83 := ⟨_, rfl⟩
          obtain ⟨x8_189, ex8_189⟩ : ∃ z : Int32, z = x8_83 := ⟨_, rfl⟩
          replace hsp : lp_vm_tokenize_189 nf n_189 v3 f4 f5 f6 f7 f2 nS352 fS352 (lp_vm_tokenize_7 nf n_7 v3 f4 f5 f6 f7 f2 nS352 fS352) l1_189 l2_189 l3_189 j4_189 g4_189 g5_189 g6_189 g7_189 x8_189 = some (o4, o5, o6, o7, w8) := by rw [hn_189, el1_189, el2_189, el3_189, ej4_189, eg4_189, eg5_189, eg6_189, eg7_189, ex8_189]; exact hsp
          replace hl : lv_has ls 7 [(4, .long j4_189), (3, .int l3_189), (0, .ref h0), (1, .int l1_189), (2, .int l2_189)] := by rw [el1_189, el2_189, el3_189, ej4_189]; exact hl
          obtain ⟨z189, ez189⟩ : ∃ z : List Value, z = z83 := ⟨_, rfl⟩
          have hfh_189_2 : z189[2]? = some (.ref qf2) := by rw [ez189]; exact hfh_83_2
          have hfh_189_3 : z189[3]? = some (.int v3) := by rw [ez189]; exact hfh_83_3
          have hfh_189_4 : z189[4]? = some (.ref qf4) := by rw [ez189]; exact hfh_83_4
          have hfh_189_5 : z189[5]? = some (.ref qf5) := by rw [ez189]; exact hfh_83_5
          have hfh_189_6 : z189[6]? = some (.ref qf6) := by rw [ez189]; exact hfh_83_6
          have hfh_189_7 : z189[7]? = some (.ref qf7) := by rw [ez189]; exact hfh_83_7
          have hfh_189_8 : z189[8]? = some (.int x8_189) := by rw [ez189, ex8_189]; exact hfh_83_8
          have hlh_189 : z189.length = 155 := by rw [ez189]; exact hlh_83
          have hrh_189 : ∀ j : Nat, j ≠ 8 → z189[j]? = zs[j]? := by rw [ez189]; exact hrh_83
          replace hP : va_P (dC, dI) vwCl [(h0, .inr (13, z189)), (qf4, .inl (cf4, 3008, .inl g4_189)), (qf5, .inl (cf5, 3002, .inl g5_189)), (qf6, .inl (cf6, 3002, .inl g6_189)), (qf7, .inl (cf7, 3002, .inl g7_189)), (qf2, .inl (cf2, 3000, .inl f2))] H := by rw [ez189, eg4_189, eg5_189, eg6_189, eg7_189]; exact hP
          replace hD : va_D A [(h0, .inr (13, z189)), (qf4, .inl (cf4, 3008, .inl g4_189)), (qf5, .inl (cf5, 3002, .inl g5_189)), (qf6, .inl (cf6, 3002, .inl g6_189)), (qf7, .inl (cf7, 3002, .inl g7_189)), (qf2, .inl (cf2, 3000, .inl f2))] := by rw [ez189, eg4_189, eg5_189, eg6_189, eg7_189]; exact hD
          clear hn_189 ez189 el1_189 el2_189 el3_189 ej4_189 eg4_189 eg5_189 eg6_189 eg7_189 ex8_189
          try clear hlo
          try clear hH
          revert hsp
          revert hP
          revert hD
          revert hS
          revert hl
          revert hrh_189
          revert hlh_189
          revert hfh_189_8
          revert hfh_189_7
          revert hfh_189_6
          revert hfh_189_5
          revert hfh_189_4
          revert hfh_189_3
          revert hfh_189_2
          revert x8_189
          revert g7_189
          revert g6_189
          revert g5_189
          revert g4_189
          revert j4_189
          revert l3_189
          revert l2_189
          revert l1_189
          revert z189
          revert ls
          revert locs
          revert H
          induction n_189 with
          | zero => intro H locs ls z189 l1_189 l2_189 l3_189 j4_189 g4_189 g5_189 g6_189 g7_189 x8_189 hfh_189_2 hfh_189_3 hfh_189_4 hfh_189_5 hfh_189_6 hfh_189_7 hfh_189_8 hlh_189 hrh_189 hl hS hD hP hsp; unfold lp_vm_tokenize_189 at hsp; cases hsp
          | succ n_189 ih_189 =>
            intro H locs ls z189 l1_189 l2_189 l3_189 j4_189 g4_189 g5_189 g6_189 g7_189 x8_189 hfh_189_2 hfh_189_3 hfh_189_4 hfh_189_5 hfh_189_6 hfh_189_7 hfh_189_8 hlh_189 hrh_189 hl hS hD hP hsp
            unfold lp_vm_tokenize_189 at hsp
            try dsimp only at hsp
            refine lv_aload_n hx hb dX13_tokenize_189 rfl (lv_at hl 2 rfl) ?_
            refine lv_iload_n hx hb dX13_tokenize_190 rfl (lv_at hl 3 rfl) ?_
            refine lv_iload_n hx hb dX13_tokenize_191 rfl (lv_at hl 1 rfl) ?_
            refine lv_iadd hx hb dX13_tokenize_192 ?_
            obtain ⟨u6_0, hu_6, hsp⟩ := ox_bind hsp
            try dsimp only at hsp
            have hPc := hP.sub (ws' := [(h0, .inr (13, z189)), (qf2, .inl (cf2, 3000, .inl f2))]) [0, 5] rfl
            have hDc := hD.sub (ws' := [(h0, .inr (13, z189)), (qf2, .inl (cf2, 3000, .inl f2))]) [0, 5] (by decide) rfl
            have hKc := hK.sub (tys' := [(cf2, .int)]) [4] rfl
            have hFc := va_free (wc := [(h0, .inr (13, z189)), (qf2, .inl (cf2, 3000, .inl f2))]) hD hS hA [0, 5] rfl
            refine va_calli (va_runV (As := [.int (l1_189 + l3_189)]) (rest := []) ⟨hx, hb, hml, hown, hts⟩ (tm_at l dC dI H.size h0 z189 ((l1_189 + l3_189)) qf2 v3 cf2 f2 nf u6_0 hlh_189 hfh_189_2 hfh_189_3 hu_6) (cwV 1 hts gv_h9_2 rfl rfl rfl (by decide +kernel) ⟨Nat.le_of_ble_eq_true rfl, Nat.le_of_ble_eq_true rfl⟩) ⟨fun a U g mk q => by obtain ⟨q0, q1, qP, qK, qD⟩ := q; exact ⟨q0, q1, qP, va_K.moved (u := U) (U := U.calling g mk a) (Vm.Alike.refl U.vm) qK, qD⟩, va_recv hKc hPc (ci := 13) (q0 := 0) rfl rfl, fun U hU hW => ⟨rfl, by rw [hU], by rw [hU]; exact hPc, va_K.moved hW.alike hKc, hDc.weaken (fun _ _ _ _ => trivial)⟩⟩ rfl rfl hl.1 rfl (lv_room (Nat.le_of_ble_eq_true rfl)) dX13_tokenize_193 ⟨Nat.le_of_ble_eq_true rfl, Nat.le_of_ble_eq_true rfl⟩) hS (fun q _ h => hFc q h) hFc ?_
            clear hS
            intro r_24 u t H1 locs ht hvm hw hB hz1 hk1 hS
            obtain ⟨z_6, rfl⟩ : ∃ z, z = u := ⟨_, rfl⟩
            obtain ⟨hP1, hK1, hD1⟩ := hB
            rw [ht] at hP1
            have hK1 := va_K.moved hvm.symm hK1
            try dsimp only at hw
            have hPD := va_join (wr := [(qf4, .inl (cf4, 3008, .inl g4_189)), (qf5, .inl (cf5, 3002, .inl g5_189)), (qf6, .inl (cf6, 3002, .inl g6_189)), (qf7, .inl (cf7, 3002, .inl g7_189))]) (w1 := [(h0, .inr (13, z_6)), (qf2, .inl (cf2, 3000, .inl f2))]) hP hD [0, 5] [1, 2, 3, 4] rfl rfl (by decide) (by decide) hk1 hFc hP1 hD1
            clear hP hD
            obtain ⟨hP, hD⟩ := hPD
            replace hK := (hK.sub (tys' := [(cf4, .int), (cf5, .int), (cf6, .int), (cf7, .int)]) [0, 1, 2, 3] rfl).app hK1
            clear hPc hDc hKc hFc hP1 hK1 hD1 hz1 hk1 ht hvm
            generalize H1 = H at hP hS ⊢
            replace hP : va_P (dC, dI) vwCl [(qf4, .inl (cf4, 3008, .inl g4_189)), (qf5, .inl (cf5, 3002, .inl g5_189)), (qf6, .inl (cf6, 3002, .inl g6_189)), (qf7, .inl (cf7, 3002, .inl g7_189)), (h0, .inr (13, z_6)), (qf2, .inl (cf2, 3000, .inl f2))] H := hP
            replace hD : va_D A [(qf4, .inl (cf4, 3008, .inl g4_189)), (qf5, .inl (cf5, 3002, .inl g5_189)), (qf6, .inl (cf6, 3002, .inl g6_189)), (qf7, .inl (cf7, 3002, .inl g7_189)), (h0, .inr (13, z_6)), (qf2, .inl (cf2, 3000, .inl f2))] := hD
            replace hK : va_K (dC, dI) vwCl [(cf4, .int), (cf5, .int), (cf6, .int), (cf7, .int), (cf2, .int)] s := hK
            obtain ⟨hwa_6, hln_6, hre_6⟩ := hw
            have hfk_6_2 : z_6[2]? = some (.ref qf2) := (hre_6 2 ).trans (hfh_189_2)
            have hfk_6_3 : z_6[3]? = some (.int v3) := (hre_6 3 ).trans (hfh_189_3)
            have hfk_6_4 : z_6[4]? = some (.ref qf4) := (hre_6 4 ).trans (hfh_189_4)
            have hfk_6_5 : z_6[5]? = some (.ref qf5) := (hre_6 5 ).trans (hfh_189_5)
            have hfk_6_6 : z_6[6]? = some (.ref qf6) := (hre_6 6 ).trans (hfh_189_6)
            have hfk_6_7 : z_6[7]? = some (.ref qf7) := (hre_6 7 ).trans (hfh_189_7)
            have hfk_6_8 : z_6[8]? = some (.int x8_189) := (hre_6 8 ).trans (hfh_189_8)
            have hrq_6 : ∀ j : Nat, j ≠ 8 → z_6[j]? = zs[j]? := fun j g8 => (hre_6 j ).trans (hrh_189 j g8)
            obtain rfl := hwa_6
            obtain ⟨u7_0, hu_7, hsp⟩ := ox_bind hsp
            try dsimp only at hsp
            have hPc := hP.sub (ws' := []) [] rfl
            have hDc := hD.sub (ws' := []) [] (by decide) rfl
            have hKc := hK.sub (tys' := []) [] rfl
            have hFc := va_free (wc := []) hD hS hA [] rfl
            refine va_calli (va_runS (As := [.int u6_0]) (rest := []) ⟨hx, hb, hml, hown, hts⟩ (tm_isDigit l dC dI H.size u6_0 nf u7_0 hu_7) (va_cwS 1 hts gv_h9_5 rfl rfl rfl (by decide +kernel) ⟨Nat.le_of_ble_eq_true rfl, Nat.le_of_ble_eq_true rfl⟩) ⟨fun a U g mk q => by obtain ⟨q0, q1, qP, qK, qD⟩ := q; exact ⟨q0, q1, qP, va_K.moved (u := U) (U := U.calling g mk a) (Vm.Alike.refl U.vm) qK, qD⟩, fun U hU hW => ⟨rfl, by rw [hU], by rw [hU]; exact hPc, va_K.moved hW.alike hKc, hDc.weaken (fun _ _ _ _ => trivial)⟩⟩ rfl rfl hl.1 rfl (lv_room (Nat.le_of_ble_eq_true rfl)) dX13_tokenize_196 ⟨Nat.le_of_ble_eq_true rfl, Nat.le_of_ble_eq_true rfl⟩) hS (fun q _ h => hFc q h) hFc ?_
            clear hS
            intro r_25 u t H1 locs ht hvm hw hB hz1 hk1 hS
            obtain ⟨⟩ := u
            obtain ⟨hP1, hK1, hD1⟩ := hB
            rw [ht] at hP1
            have hK1 := va_K.moved hvm.symm hK1
            try dsimp only at hw
            have hPD := va_join (wr := [(qf4, .inl (cf4, 3008, .inl g4_189)), (qf5, .inl (cf5, 3002, .inl g5_189)), (qf6, .inl (cf6, 3002, .inl g6_189)), (qf7, .inl (cf7, 3002, .inl g7_189)), (h0, .inr (13, z_6)), (qf2, .inl (cf2, 3000, .inl f2))]) (w1 := []) hP hD [] [0, 1, 2, 3, 4, 5] rfl rfl (by decide) (by decide) hk1 hFc hP1 hD1
            clear hP hD
            obtain ⟨hP, hD⟩ := hPD
            replace hK := (hK.sub (tys' := [(cf4, .int), (cf5, .int), (cf6, .int), (cf7, .int), (cf2, .int)]) [0, 1, 2, 3, 4] rfl).app hK1
            clear hPc hDc hKc hFc hP1 hK1 hD1 hz1 hk1 ht hvm
            generalize H1 = H at hP hS ⊢
            replace hP : va_P (dC, dI) vwCl [(qf4, .inl (cf4, 3008, .inl g4_189)), (qf5, .inl (cf5, 3002, .inl g5_189)), (qf6, .inl (cf6, 3002, .inl g6_189)), (qf7, .inl (cf7, 3002, .inl g7_189)), (h0, .inr (13, z_6)), (qf2, .inl (cf2, 3000, .inl f2))] H := hP
            replace hD : va_D A [(qf4, .inl (cf4, 3008, .inl g4_189)), (qf5, .inl (cf5, 3002, .inl g5_189)), (qf6, .inl (cf6, 3002, .inl g6_189)), (qf7, .inl (cf7, 3002, .inl g7_189)), (h0, .inr (13, z_6)), (qf2, .inl (cf2, 3000, .inl f2))] := hD
            replace hK : va_K (dC, dI) vwCl [(cf4, .int), (cf5, .int), (cf6, .int), (cf7, .int), (cf2, .int)] s := hK
            obtain ⟨rfl, hz_7⟩ := hw
            rcases hz_7 with rfl | rfl
            · rw [if_pos rfl] at hsp
              refine lv_if_eq (tgt := 243) hx hb dX13_tokenize_199 (by decide) (fun c_26 => ?_) (fun c_26 => (show False by revert c_26; decide).elim)
              refine lv_lload hx hb dX13_tokenize_243 (lv_at hl 0 rfl) ?_
              refine lv_ldc2 (v := 2147483647) hx hb hown (hts (.constantLong RX13 368 2147483647) mw_h9_33) dX13_tokenize_245 ?_
              refine pw_lcmp hx hb dX13_tokenize_248 ?_
              refine lv_if_gt (tgt := 292) hx hb dX13_tokenize_249 (by decide) (fun c_27 => ?_) (fun c_27 => ?_)
              · rw [if_pos c_27] at hsp
                exact hj_292 (H, locs, ls, z_6, l1_189, l3_189, j4_189, g4_189, g5_189, g6_189, g7_189, x8_189) ⟨lv_sub hl [2, 3, 1, 0] rfl, hS, hD.sub (ws' := [(h0, .inr (13, z_6)), (qf4, .inl (cf4, 3008, .inl g4_189)), (qf5, .inl (cf5, 3002, .inl g5_189)), (qf6, .inl (cf6, 3002, .inl g6_189)), (qf7, .inl (cf7, 3002, .inl g7_189)), (qf2, .inl (cf2, 3000, .inl f2))]) [4, 0, 1, 2, 3, 5] (by decide) rfl, hP.sub (ws' := [(h0, .inr (13, z_6)), (qf4, .inl (cf4, 3008, .inl g4_189)), (qf5, .inl (cf5, 3002, .inl g5_189)), (qf6, .inl (cf6, 3002, .inl g6_189)), (qf7, .inl (cf7, 3002, .inl g7_189)), (qf2, .inl (cf2, 3000, .inl f2))]) [4, 0, 1, 2, 3, 5] rfl, hfk_6_2, hfk_6_3, hfk_6_4, hfk_6_5, hfk_6_6, hfk_6_7, hfk_6_8, hln_6, hrq_6, hsp⟩
              · rw [if_neg c_27] at hsp
                refine lv_iload_n hx hb dX13_tokenize_252 rfl (lv_at hl 1 rfl) ?_
                refine lv_iconst (v := 1) hx hb dX13_tokenize_253 (by decide) ?_
                refine lv_icmp_eq (tgt := 263) hx hb dX13_tokenize_254 (by decide) (fun c_28 => ?_) (fun c_28 => ?_)
                · rw [if_pos c_28] at hsp
                  exact hj_263 (H, locs, ls, z_6, l1_189, l3_189, j4_189, g4_189, g5_189, g6_189, g7_189, x8_189) ⟨lv_sub hl [2, 3, 1, 0] rfl, hS, hD.sub (ws' := [(h0, .inr (13, z_6)), (qf4, .inl (cf4, 3008, .inl g4_189)), (qf5, .inl (cf5, 3002, .inl g5_189)), (qf6, .inl (cf6, 3002, .inl g6_189)), (qf7, .inl (cf7, 3002, .inl g7_189)), (qf2, .inl (cf2, 3000, .inl f2))]) [4, 0, 1, 2, 3, 5] (by decide) rfl, hP.sub (ws' := [(h0, .inr (13, z_6)), (qf4, .inl (cf4, 3008, .inl g4_189)), (qf5, .inl (cf5, 3002, .inl g5_189)), (qf6, .inl (cf6, 3002, .inl g6_189)), (qf7, .inl (cf7, 3002, .inl g7_189)), (qf2, .inl (cf2, 3000, .inl f2))]) [4, 0, 1, 2, 3, 5] rfl, hfk_6_2, hfk_6_3, hfk_6_4, hfk_6_5, hfk_6_6, hfk_6_7, hfk_6_8, hln_6, hrq_6, hsp⟩
                · rw [if_neg c_28] at hsp
                  refine lv_iload_n hx hb dX13_tokenize_257 rfl (lv_at hl 4 rfl) ?_
                  refine lv_bipush (v := 48) hx hb dX13_tokenize_258 (by decide) ?_
                  refine lv_icmp_eq (tgt := 292) hx hb dX13_tokenize_260 (by decide) (fun c_29 => ?_) (fun c_29 => ?_)
                  · rw [if_pos c_29] at hsp
                    exact hj_292 (H, locs, ls, z_6, l1_189, l3_189, j4_189, g4_189, g5_189, g6_189, g7_189, x8_189) ⟨lv_sub hl [2, 3, 1, 0] rfl, hS, hD.sub (ws' := [(h0, .inr (13, z_6)), (qf4, .inl (cf4, 3008, .inl g4_189)), (qf5, .inl (cf5, 3002, .inl g5_189)), (qf6, .inl (cf6, 3002, .inl g6_189)), (qf7, .inl (cf7, 3002, .inl g7_189)), (qf2, .inl (cf2, 3000, .inl f2))]) [4, 0, 1, 2, 3, 5] (by decide) rfl, hP.sub (ws' := [(h0, .inr (13, z_6)), (qf4, .inl (cf4, 3008, .inl g4_189)), (qf5, .inl (cf5, 3002, .inl g5_189)), (qf6, .inl (cf6, 3002, .inl g6_189)), (qf7, .inl (cf7, 3002, .inl g7_189)), (qf2, .inl (cf2, 3000, .inl f2))]) [4, 0, 1, 2, 3, 5] rfl, hfk_6_2, hfk_6_3, hfk_6_4, hfk_6_5, hfk_6_6, hfk_6_7, hfk_6_8, hln_6, hrq_6, hsp⟩
                  · rw [if_neg c_29] at hsp
                    exact hj_263 (H, locs, ls, z_6, l1_189, l3_189, j4_189, g4_189, g5_189, g6_189, g7_189, x8_189) ⟨lv_sub hl [2, 3, 1, 0] rfl, hS, hD.sub (ws' := [(h0, .inr (13, z_6)), (qf4, .inl (cf4, 3008, .inl g4_189)), (qf5, .inl (cf5, 3002, .inl g5_189)), (qf6, .inl (cf6, 3002, .inl g6_189)), (qf7, .inl (cf7, 3002, .inl g7_189)), (qf2, .inl (cf2, 3000, .inl f2))]) [4, 0, 1, 2, 3, 5] (by decide) rfl, hP.sub (ws' := [(h0, .inr (13, z_6)), (qf4, .inl (cf4, 3008, .inl g4_189)), (qf5, .inl (cf5, 3002, .inl g5_189)), (qf6, .inl (cf6, 3002, .inl g6_189)), (qf7, .inl (cf7, 3002, .inl g7_189)), (qf2, .inl (cf2, 3000, .inl f2))]) [4, 0, 1, 2, 3, 5] rfl, hfk_6_2, hfk_6_3, hfk_6_4, hfk_6_5, hfk_6_6, hfk_6_7, hfk_6_8, hln_6, hrq_6, hsp⟩
            · rw [if_neg (by decide)] at hsp
              refine lv_if_eq (tgt := 243) hx hb dX13_tokenize_199 (by decide) (fun c_30 => (show False by revert c_30; decide).elim) (fun c_30 => ?_)
              refine lv_lload hx hb dX13_tokenize_202 (lv_at hl 0 rfl) ?_
              refine lv_ldc2 (v := 3000000000) hx hb hown (hts (.constantLong RX13 362 3000000000) mw_h9_34) dX13_tokenize_204 ?_
              refine pw_lcmp hx hb dX13_tokenize_207 ?_
              refine lv_if_le (tgt := 216) hx hb dX13_tokenize_208 (by decide) (fun c_31 => ?_) (fun c_31 => ?_)
              · rw [if_pos c_31] at hsp
                refine lv_ldc2 (v := 10) hx hb hown (hts (.constantLong RX13 364 10) mw_h9_35) dX13_tokenize_216 ?_
                refine lv_lload hx hb dX13_tokenize_219 (lv_at hl 0 rfl) ?_
                refine lv_lmul hx hb dX13_tokenize_221 ?_
                refine lv_aload_n hx hb dX13_tokenize_222 rfl (lv_at hl 2 rfl) ?_
                refine lv_iload_n hx hb dX13_tokenize_223 rfl (lv_at hl 3 rfl) ?_
                refine lv_iload_n hx hb dX13_tokenize_224 rfl (lv_at hl 1 rfl) ?_
                refine lv_iadd hx hb dX13_tokenize_225 ?_
                obtain ⟨u8_0, hu_8, hsp⟩ := ox_bind hsp
                try dsimp only at hsp
                have hPc := hP.sub (ws' := [(h0, .inr (13, z_6)), (qf2, .inl (cf2, 3000, .inl f2))]) [4, 5] rfl
                have hDc := hD.sub (ws' := [(h0, .inr (13, z_6)), (qf2, .inl (cf2, 3000, .inl f2))]) [4, 5] (by decide) rfl
                have hKc := hK.sub (tys' := [(cf2, .int)]) [4] rfl
                have hFc := va_free (wc := [(h0, .inr (13, z_6)), (qf2, .inl (cf2, 3000, .inl f2))]) hD hS hA [4, 5] rfl
                refine va_calli (va_runV (As := [.int (l1_189 + l3_189)]) (rest := [.long (10 * j4_189)]) ⟨hx, hb, hml, hown, hts⟩ (tm_at l dC dI H.size h0 z_6 ((l1_189 + l3_189)) qf2 v3 cf2 f2 nf u8_0 hln_6 hfk_6_2 hfk_6_3 hu_8) (cwV 1 hts gv_h9_2 rfl rfl rfl (by decide +kernel) ⟨Nat.le_of_ble_eq_true rfl, Nat.le_of_ble_eq_true rfl⟩) ⟨fun a U g mk q => by obtain ⟨q0, q1, qP, qK, qD⟩ := q; exact ⟨q0, q1, qP, va_K.moved (u := U) (U := U.calling g mk a) (Vm.Alike.refl U.vm) qK, qD⟩, va_recv hKc hPc (ci := 13) (q0 := 0) rfl rfl, fun U hU hW => ⟨rfl, by rw [hU], by rw [hU]; exact hPc, va_K.moved hW.alike hKc, hDc.weaken (fun _ _ _ _ => trivial)⟩⟩ rfl rfl hl.1 rfl (lv_room (Nat.le_of_ble_eq_true rfl)) dX13_tokenize_226 ⟨Nat.le_of_ble_eq_true rfl, Nat.le_of_ble_eq_true rfl⟩) hS (fun q _ h => hFc q h) hFc ?_
                clear hS
                intro r_32 u t H1 locs ht hvm hw hB hz1 hk1 hS
                obtain ⟨z_8, rfl⟩ : ∃ z, z = u := ⟨_, rfl⟩
                obtain ⟨hP1, hK1, hD1⟩ := hB
                rw [ht] at hP1
                have hK1 := va_K.moved hvm.symm hK1
                try dsimp only at hw
                have hPD := va_join (wr := [(qf4, .inl (cf4, 3008, .inl g4_189)), (qf5, .inl (cf5, 3002, .inl g5_189)), (qf6, .inl (cf6, 3002, .inl g6_189)), (qf7, .inl (cf7, 3002, .inl g7_189))]) (w1 := [(h0, .inr (13, z_8)), (qf2, .inl (cf2, 3000, .inl f2))]) hP hD [4, 5] [0, 1, 2, 3] rfl rfl (by decide) (by decide) hk1 hFc hP1 hD1
                clear hP hD
                obtain ⟨hP, hD⟩ := hPD
                replace hK := (hK.sub (tys' := [(cf4, .int), (cf5, .int), (cf6, .int), (cf7, .int)]) [0, 1, 2, 3] rfl).app hK1
                clear hPc hDc hKc hFc hP1 hK1 hD1 hz1 hk1 ht hvm
                generalize H1 = H at hP hS ⊢
                replace hP : va_P (dC, dI) vwCl [(qf4, .inl (cf4, 3008, .inl g4_189)), (qf5, .inl (cf5, 3002, .inl g5_189)), (qf6, .inl (cf6, 3002, .inl g6_189)), (qf7, .inl (cf7, 3002, .inl g7_189)), (h0, .inr (13, z_8)), (qf2, .inl (cf2, 3000, .inl f2))] H := hP
                replace hD : va_D A [(qf4, .inl (cf4, 3008, .inl g4_189)), (qf5, .inl (cf5, 3002, .inl g5_189)), (qf6, .inl (cf6, 3002, .inl g6_189)), (qf7, .inl (cf7, 3002, .inl g7_189)), (h0, .inr (13, z_8)), (qf2, .inl (cf2, 3000, .inl f2))] := hD
                replace hK : va_K (dC, dI) vwCl [(cf4, .int), (cf5, .int), (cf6, .int), (cf7, .int), (cf2, .int)] s := hK
                obtain ⟨hwa_8, hln_8, hre_8⟩ := hw
                have hfk_8_2 : z_8[2]? = some (.ref qf2) := (hre_8 2 ).trans (hfk_6_2)
                have hfk_8_3 : z_8[3]? = some (.int v3) := (hre_8 3 ).trans (hfk_6_3)
                have hfk_8_4 : z_8[4]? = some (.ref qf4) := (hre_8 4 ).trans (hfk_6_4)
                have hfk_8_5 : z_8[5]? = some (.ref qf5) := (hre_8 5 ).trans (hfk_6_5)
                have hfk_8_6 : z_8[6]? = some (.ref qf6) := (hre_8 6 ).trans (hfk_6_6)
                have hfk_8_7 : z_8[7]? = some (.ref qf7) := (hre_8 7 ).trans (hfk_6_7)
                have hfk_8_8 : z_8[8]? = some (.int x8_189) := (hre_8 8 ).trans (hfk_6_8)
                have hrq_8 : ∀ j : Nat, j ≠ 8 → z_8[j]? = zs[j]? := fun j g8 => (hre_8 j ).trans (hrq_6 j g8)
                obtain rfl := hwa_8
                refine lv_i2l hx hb dX13_tokenize_229 rfl ?_
                refine lv_ladd hx hb dX13_tokenize_230 ?_
                refine lv_ldc2 (v := 48) hx hb hown (hts (.constantLong RX13 366 48) mw_h9_36) dX13_tokenize_231 ?_
                refine lv_lsub hx hb dX13_tokenize_234 ?_
                refine lv_lstore (lv' := [(4, .long (((10 * j4_189) + ((u8_0 : Int32).toInt64)) - 48)), (3, .int l3_189), (0, .ref h0), (1, .int l1_189), (2, .int l2_189)]) hx hb dX13_tokenize_235 hl (by decide) rfl (fun ls hl => ?_)
                refine lv_iinc (v := (l3_189 + 1)) (lv' := [(3, .int (l3_189 + 1)), (4, .long (((10 * j4_189) + ((u8_0 : Int32).toInt64)) - 48)), (0, .ref h0), (1, .int l1_189), (2, .int l2_189)]) hx hb dX13_tokenize_237 hl (k := 1) rfl rfl (by decide) rfl (fun ls hl => ?_)
                refine lv_goto (tgt := 189) hx hb dX13_tokenize_240 (by decide) ?_
                exact ih_189 H locs ls z_8 l1_189 l2_189 (l3_189 + 1) (((10 * j4_189) + ((u8_0 : Int32).toInt64)) - 48) g4_189 g5_189 g6_189 g7_189 x8_189 (hfk_8_2) (hfk_8_3) (hfk_8_4) (hfk_8_5) (hfk_8_6) (hfk_8_7) (hfk_8_8) hln_8 hrq_8 (lv_sub hl [1, 0, 2, 3, 4] rfl) hS (hD.sub (ws' := [(h0, .inr (13, z_8)), (qf4, .inl (cf4, 3008, .inl g4_189)), (qf5, .inl (cf5, 3002, .inl g5_189)), (qf6, .inl (cf6, 3002, .inl g6_189)), (qf7, .inl (cf7, 3002, .inl g7_189)), (qf2, .inl (cf2, 3000, .inl f2))]) [4, 0, 1, 2, 3, 5] (by decide) rfl) (hP.sub (ws' := [(h0, .inr (13, z_8)), (qf4, .inl (cf4, 3008, .inl g4_189)), (qf5, .inl (cf5, 3002, .inl g5_189)), (qf6, .inl (cf6, 3002, .inl g6_189)), (qf7, .inl (cf7, 3002, .inl g7_189)), (qf2, .inl (cf2, 3000, .inl f2))]) [4, 0, 1, 2, 3, 5] rfl) hsp
              · rw [if_neg c_31] at hsp
                refine lv_lload hx hb dX13_tokenize_211 (lv_at hl 0 rfl) ?_
                refine lv_goto (tgt := 235) hx hb dX13_tokenize_213 (by decide) ?_
                refine lv_lstore (lv' := [(4, .long j4_189), (3, .int l3_189), (0, .ref h0), (1, .int l1_189), (2, .int l2_189)]) hx hb dX13_tokenize_235 hl (by decide) rfl (fun ls hl => ?_)
                refine lv_iinc (v := (l3_189 + 1)) (lv' := [(3, .int (l3_189 + 1)), (4, .long j4_189), (0, .ref h0), (1, .int l1_189), (2, .int l2_189)]) hx hb dX13_tokenize_237 hl (k := 1) rfl rfl (by decide) rfl (fun ls hl => ?_)
                refine lv_goto (tgt := 189) hx hb dX13_tokenize_240 (by decide) ?_
                exact ih_189 H locs ls z_6 l1_189 l2_189 (l3_189 + 1) j4_189 g4_189 g5_189 g6_189 g7_189 x8_189 (hfk_6_2) (hfk_6_3) (hfk_6_4) (hfk_6_5) (hfk_6_6) (hfk_6_7) (hfk_6_8) hln_6 hrq_6 (lv_sub hl [1, 0, 2, 3, 4] rfl) hS (hD.sub (ws' := [(h0, .inr (13, z_6)), (qf4, .inl (cf4, 3008, .inl g4_189)), (qf5, .inl (cf5, 3002, .inl g5_189)), (qf6, .inl (cf6, 3002, .inl g6_189)), (qf7, .inl (cf7, 3002, .inl g7_189)), (qf2, .inl (cf2, 3000, .inl f2))]) [4, 0, 1, 2, 3, 5] (by decide) rfl) (hP.sub (ws' := [(h0, .inr (13, z_6)), (qf4, .inl (cf4, 3008, .inl g4_189)), (qf5, .inl (cf5, 3002, .inl g5_189)), (qf6, .inl (cf6, 3002, .inl g6_189)), (qf7, .inl (cf7, 3002, .inl g7_189)), (qf2, .inl (cf2, 3000, .inl f2))]) [4, 0, 1, 2, 3, 5] rfl) hsp
      · rw [if_neg (by decide)] at hsp
        refine lv_if_eq (tgt := 179) hx hb dX13_tokenize_89 (by decide) (fun c_33 => (show False by revert c_33; decide).elim) (fun c_33 => ?_)
        replace hl : lv_has ls 7 [(3, .int 0), (0, .ref h0), (1, .int l1_83)] := lv_sub hl [0, 1, 2] rfl
        replace hP := hP.sub (ws' := [(h0, .inr (13, z83)), (qf4, .inl (cf4, 3008, .inl g4_83)), (qf5, .inl (cf5, 3002, .inl g5_83)), (qf6, .inl (cf6, 3002, .inl g6_83)), (qf7, .inl (cf7, 3002, .inl g7_83)), (qf2, .inl (cf2, 3000, .inl f2))]) [0, 1, 2, 3, 4, 5] rfl
        replace hD := hD.sub (ws' := [(h0, .inr (13, z83)), (qf4, .inl (cf4, 3008, .inl g4_83)), (qf5, .inl (cf5, 3002, .inl g5_83)), (qf6, .inl (cf6, 3002, .inl g6_83)), (qf7, .inl (cf7, 3002, .inl g7_83)), (qf2, .inl (cf2, 3000, .inl f2))]) [0, 1, 2, 3, 4, 5] (by decide) rfl
        replace hK := hK.sub (tys' := [(cf4, .int), (cf5, .int), (cf6, .int), (cf7, .int), (cf2, .int)]) [0, 1, 2, 3, 4] rfl
        obtain ⟨n_92, hn_92⟩ : ∃ z : Nat, z = nf := ⟨_, rfl⟩
        obtain ⟨l1_92, el1_92⟩ : ∃ z : Int32, z = l1_83 := ⟨_, rfl⟩
        obtain ⟨l3_92, el3_92⟩ : ∃ z : Int32, z = 0 := ⟨_, rfl⟩
        obtain ⟨g4_92, eg4_92⟩ : ∃ z : Nat → Int32, z = g4_83 := ⟨_, rfl⟩
        obtain ⟨g5_92, eg5_92⟩ : ∃ z : Nat → Int32, z = g5_83 := ⟨_, rfl⟩
        obtain ⟨g6_92, eg6_92⟩ : ∃ z : Nat → Int32, z = g6_83 := ⟨_, rfl⟩
        obtain ⟨g7_92, eg7_92⟩ : ∃ z : Nat → Int32, z = g7_83 := ⟨_, rfl⟩
        obtain ⟨x8_92, ex8_92⟩ : ∃ z : Int32, z = x8_83 := ⟨_, rfl⟩
        replace hsp : lp_vm_tokenize_92 nf n_92 v3 f4 f5 f6 f7 f2 nS352 fS352 (lp_vm_tokenize_7 nf n_7 v3 f4 f5 f6 f7 f2 nS352 fS352) l1_92 l3_92 g4_92 g5_92 g6_92 g7_92 x8_92 = some (o4, o5, o6, o7, w8) := by rw [hn_92, el1_92, el3_92, eg4_92, eg5_92, eg6_92, eg7_92, ex8_92]; exact hsp
        replace hl : lv_has ls 7 [(3, .int l3_92), (0, .ref h0), (1, .int l1_92)] := by rw [el1_92, el3_92]; exact hl
        obtain ⟨z92, ez92⟩ : ∃ z : List Value, z = z83 := ⟨_, rfl⟩
        have hfh_92_2 : z92[2]? = some (.ref qf2) := by rw [ez92]; exact hfh_83_2
        have hfh_92_3 : z92[3]? = some (.int v3) := by rw [ez92]; exact hfh_83_3
        have hfh_92_4 : z92[4]? = some (.ref qf4) := by rw [ez92]; exact hfh_83_4
        have hfh_92_5 : z92[5]? = some (.ref qf5) := by rw [ez92]; exact hfh_83_5
        have hfh_92_6 : z92[6]? = some (.ref qf6) := by rw [ez92]; exact hfh_83_6
        have hfh_92_7 : z92[7]? = some (.ref qf7) := by rw [ez92]; exact hfh_83_7
        have hfh_92_8 : z92[8]? = some (.int x8_92) := by rw [ez92, ex8_92]; exact hfh_83_8
        have hlh_92 : z92.length = 155 := by rw [ez92]; exact hlh_83
        have hrh_92 : ∀ j : Nat, j ≠ 8 → z92[j]? = zs[j]? := by rw [ez92]; exact hrh_83
        replace hP : va_P (dC, dI) vwCl [(h0, .inr (13, z92)), (qf4, .inl (cf4, 3008, .inl g4_92)), (qf5, .inl (cf5, 3002, .inl g5_92)), (qf6, .inl (cf6, 3002, .inl g6_92)), (qf7, .inl (cf7, 3002, .inl g7_92)), (qf2, .inl (cf2, 3000, .inl f2))] H := by rw [ez92, eg4_92, eg5_92, eg6_92, eg7_92]; exact hP
        replace hD : va_D A [(h0, .inr (13, z92)), (qf4, .inl (cf4, 3008, .inl g4_92)), (qf5, .inl (cf5, 3002, .inl g5_92)), (qf6, .inl (cf6, 3002, .inl g6_92)), (qf7, .inl (cf7, 3002, .inl g7_92)), (qf2, .inl (cf2, 3000, .inl f2))] := by rw [ez92, eg4_92, eg5_92, eg6_92, eg7_92]; exact hD
        clear hn_92 ez92 el1_92 el3_92 eg4_92 eg5_92 eg6_92 eg7_92 ex8_92
        try clear hlo
        try clear hH
        revert hsp
        revert hP
        revert hD
        revert hS
        revert hl
        revert hrh_92
        revert hlh_92
        revert hfh_92_8
        revert hfh_92_7
        revert hfh_92_6
        revert hfh_92_5
        revert hfh_92_4
        revert hfh_92_3
        revert hfh_92_2
        revert x8_92
        revert g7_92
        revert g6_92
        revert g5_92
        revert g4_92
        revert l3_92
        revert l1_92
        revert z92
        revert ls
        revert locs
        revert H
        induction n_92 with
        | zero => intro H locs ls z92 l1_92 l3_92 g4_92 g5_92 g6_92 g7_92 x8_92 hfh_92_2 hfh_92_3 hfh_92_4 hfh_92_5 hfh_92_6 hfh_92_7 hfh_92_8 hlh_92 hrh_92 hl hS hD hP hsp; unfold lp_vm_tokenize_92 at hsp; cases hsp
        | succ n_92 ih_92 =>
          intro H locs ls z92 l1_92 l3_92 g4_92 g5_92 g6_92 g7_92 x8_92 hfh_92_2 hfh_92_3 hfh_92_4 hfh_92_5 hfh_92_6 hfh_92_7 hfh_92_8 hlh_92 hrh_92 hl hS hD hP hsp
          unfold lp_vm_tokenize_92 at hsp
          try dsimp only at hsp
          refine lv_aload_n hx hb dX13_tokenize_92 rfl (lv_at hl 1 rfl) ?_
          refine lv_iload_n hx hb dX13_tokenize_93 rfl (lv_at hl 2 rfl) ?_
          refine lv_iload_n hx hb dX13_tokenize_94 rfl (lv_at hl 0 rfl) ?_
          refine lv_iadd hx hb dX13_tokenize_95 ?_
          obtain ⟨u9_0, hu_9, hsp⟩ := ox_bind hsp
          try dsimp only at hsp
          have hPc := hP.sub (ws' := [(h0, .inr (13, z92)), (qf2, .inl (cf2, 3000, .inl f2))]) [0, 5] rfl
          have hDc := hD.sub (ws' := [(h0, .inr (13, z92)), (qf2, .inl (cf2, 3000, .inl f2))]) [0, 5] (by decide) rfl
          have hKc := hK.sub (tys' := [(cf2, .int)]) [4] rfl
          have hFc := va_free (wc := [(h0, .inr (13, z92)), (qf2, .inl (cf2, 3000, .inl f2))]) hD hS hA [0, 5] rfl
          refine va_calli (va_runV (As := [.int (l1_92 + l3_92)]) (rest := []) ⟨hx, hb, hml, hown, hts⟩ (tm_at l dC dI H.size h0 z92 ((l1_92 + l3_92)) qf2 v3 cf2 f2 nf u9_0 hlh_92 hfh_92_2 hfh_92_3 hu_9) (cwV 1 hts gv_h9_2 rfl rfl rfl (by decide +kernel) ⟨Nat.le_of_ble_eq_true rfl, Nat.le_of_ble_eq_true rfl⟩) ⟨fun a U g mk q => by obtain ⟨q0, q1, qP, qK, qD⟩ := q; exact ⟨q0, q1, qP, va_K.moved (u := U) (U := U.calling g mk a) (Vm.Alike.refl U.vm) qK, qD⟩, va_recv hKc hPc (ci := 13) (q0 := 0) rfl rfl, fun U hU hW => ⟨rfl, by rw [hU], by rw [hU]; exact hPc, va_K.moved hW.alike hKc, hDc.weaken (fun _ _ _ _ => trivial)⟩⟩ rfl rfl hl.1 rfl (lv_room (Nat.le_of_ble_eq_true rfl)) dX13_tokenize_96 ⟨Nat.le_of_ble_eq_true rfl, Nat.le_of_ble_eq_true rfl⟩) hS (fun q _ h => hFc q h) hFc ?_
          clear hS
          intro r_34 u t H1 locs ht hvm hw hB hz1 hk1 hS
          obtain ⟨z_9, rfl⟩ : ∃ z, z = u := ⟨_, rfl⟩
          obtain ⟨hP1, hK1, hD1⟩ := hB
          rw [ht] at hP1
          have hK1 := va_K.moved hvm.symm hK1
          try dsimp only at hw
          have hPD := va_join (wr := [(qf4, .inl (cf4, 3008, .inl g4_92)), (qf5, .inl (cf5, 3002, .inl g5_92)), (qf6, .inl (cf6, 3002, .inl g6_92)), (qf7, .inl (cf7, 3002, .inl g7_92))]) (w1 := [(h0, .inr (13, z_9)), (qf2, .inl (cf2, 3000, .inl f2))]) hP hD [0, 5] [1, 2, 3, 4] rfl rfl (by decide) (by decide) hk1 hFc hP1 hD1
          clear hP hD
          obtain ⟨hP, hD⟩ := hPD
          replace hK := (hK.sub (tys' := [(cf4, .int), (cf5, .int), (cf6, .int), (cf7, .int)]) [0, 1, 2, 3] rfl).app hK1
          clear hPc hDc hKc hFc hP1 hK1 hD1 hz1 hk1 ht hvm
          generalize H1 = H at hP hS ⊢
          replace hP : va_P (dC, dI) vwCl [(qf4, .inl (cf4, 3008, .inl g4_92)), (qf5, .inl (cf5, 3002, .inl g5_92)), (qf6, .inl (cf6, 3002, .inl g6_92)), (qf7, .inl (cf7, 3002, .inl g7_92)), (h0, .inr (13, z_9)), (qf2, .inl (cf2, 3000, .inl f2))] H := hP
          replace hD : va_D A [(qf4, .inl (cf4, 3008, .inl g4_92)), (qf5, .inl (cf5, 3002, .inl g5_92)), (qf6, .inl (cf6, 3002, .inl g6_92)), (qf7, .inl (cf7, 3002, .inl g7_92)), (h0, .inr (13, z_9)), (qf2, .inl (cf2, 3000, .inl f2))] := hD
          replace hK : va_K (dC, dI) vwCl [(cf4, .int), (cf5, .int), (cf6, .int), (cf7, .int), (cf2, .int)] s := hK
          obtain ⟨hwa_9, hln_9, hre_9⟩ := hw
          have hfk_9_2 : z_9[2]? = some (.ref qf2) := (hre_9 2 ).trans (hfh_92_2)
          have hfk_9_3 : z_9[3]? = some (.int v3) := (hre_9 3 ).trans (hfh_92_3)
          have hfk_9_4 : z_9[4]? = some (.ref qf4) := (hre_9 4 ).trans (hfh_92_4)
          have hfk_9_5 : z_9[5]? = some (.ref qf5) := (hre_9 5 ).trans (hfh_92_5)
          have hfk_9_6 : z_9[6]? = some (.ref qf6) := (hre_9 6 ).trans (hfh_92_6)
          have hfk_9_7 : z_9[7]? = some (.ref qf7) := (hre_9 7 ).trans (hfh_92_7)
          have hfk_9_8 : z_9[8]? = some (.int x8_92) := (hre_9 8 ).trans (hfh_92_8)
          have hrq_9 : ∀ j : Nat, j ≠ 8 → z_9[j]? = zs[j]? := fun j g8 => (hre_9 j ).trans (hrh_92 j g8)
          obtain rfl := hwa_9
          obtain ⟨u10_0, hu_10, hsp⟩ := ox_bind hsp
          try dsimp only at hsp
          have hPc := hP.sub (ws' := []) [] rfl
          have hDc := hD.sub (ws' := []) [] (by decide) rfl
          have hKc := hK.sub (tys' := []) [] rfl
          have hFc := va_free (wc := []) hD hS hA [] rfl
          refine va_calli (va_runS (As := [.int u9_0]) (rest := []) ⟨hx, hb, hml, hown, hts⟩ (tm_isLetter l dC dI H.size u9_0 nf u10_0 hu_10) (va_cwS 1 hts gv_h9_4 rfl rfl rfl (by decide +kernel) ⟨Nat.le_of_ble_eq_true rfl, Nat.le_of_ble_eq_true rfl⟩) ⟨fun a U g mk q => by obtain ⟨q0, q1, qP, qK, qD⟩ := q; exact ⟨q0, q1, qP, va_K.moved (u := U) (U := U.calling g mk a) (Vm.Alike.refl U.vm) qK, qD⟩, fun U hU hW => ⟨rfl, by rw [hU], by rw [hU]; exact hPc, va_K.moved hW.alike hKc, hDc.weaken (fun _ _ _ _ => trivial)⟩⟩ rfl rfl hl.1 rfl (lv_room (Nat.le_of_ble_eq_true rfl)) dX13_tokenize_99 ⟨Nat.le_of_ble_eq_true rfl, Nat.le_of_ble_eq_true rfl⟩) hS (fun q _ h => hFc q h) hFc ?_
          clear hS
          intro r_35 u t H1 locs ht hvm hw hB hz1 hk1 hS
          obtain ⟨⟩ := u
          obtain ⟨hP1, hK1, hD1⟩ := hB
          rw [ht] at hP1
          have hK1 := va_K.moved hvm.symm hK1
          try dsimp only at hw
          have hPD := va_join (wr := [(qf4, .inl (cf4, 3008, .inl g4_92)), (qf5, .inl (cf5, 3002, .inl g5_92)), (qf6, .inl (cf6, 3002, .inl g6_92)), (qf7, .inl (cf7, 3002, .inl g7_92)), (h0, .inr (13, z_9)), (qf2, .inl (cf2, 3000, .inl f2))]) (w1 := []) hP hD [] [0, 1, 2, 3, 4, 5] rfl rfl (by decide) (by decide) hk1 hFc hP1 hD1
          clear hP hD
          obtain ⟨hP, hD⟩ := hPD
          replace hK := (hK.sub (tys' := [(cf4, .int), (cf5, .int), (cf6, .int), (cf7, .int), (cf2, .int)]) [0, 1, 2, 3, 4] rfl).app hK1
          clear hPc hDc hKc hFc hP1 hK1 hD1 hz1 hk1 ht hvm
          generalize H1 = H at hP hS ⊢
          replace hP : va_P (dC, dI) vwCl [(qf4, .inl (cf4, 3008, .inl g4_92)), (qf5, .inl (cf5, 3002, .inl g5_92)), (qf6, .inl (cf6, 3002, .inl g6_92)), (qf7, .inl (cf7, 3002, .inl g7_92)), (h0, .inr (13, z_9)), (qf2, .inl (cf2, 3000, .inl f2))] H := hP
          replace hD : va_D A [(qf4, .inl (cf4, 3008, .inl g4_92)), (qf5, .inl (cf5, 3002, .inl g5_92)), (qf6, .inl (cf6, 3002, .inl g6_92)), (qf7, .inl (cf7, 3002, .inl g7_92)), (h0, .inr (13, z_9)), (qf2, .inl (cf2, 3000, .inl f2))] := hD
          replace hK : va_K (dC, dI) vwCl [(cf4, .int), (cf5, .int), (cf6, .int), (cf7, .int), (cf2, .int)] s := hK
          obtain ⟨rfl, hz_10⟩ := hw
          rcases hz_10 with rfl | rfl
          · rw [if_pos rfl] at hsp
            refine lv_if_ne (tgt := 130) hx hb dX13_tokenize_102 (by decide) (fun c_36 => (show False by revert c_36; decide).elim) (fun c_36 => ?_)
            refine lv_aload_n hx hb dX13_tokenize_105 rfl (lv_at hl 1 rfl) ?_
            refine lv_iload_n hx hb dX13_tokenize_106 rfl (lv_at hl 2 rfl) ?_
            refine lv_iload_n hx hb dX13_tokenize_107 rfl (lv_at hl 0 rfl) ?_
            refine lv_iadd hx hb dX13_tokenize_108 ?_
            obtain ⟨u11_0, hu_11, hsp⟩ := ox_bind hsp
            try dsimp only at hsp
            have hPc := hP.sub (ws' := [(h0, .inr (13, z_9)), (qf2, .inl (cf2, 3000, .inl f2))]) [4, 5] rfl
            have hDc := hD.sub (ws' := [(h0, .inr (13, z_9)), (qf2, .inl (cf2, 3000, .inl f2))]) [4, 5] (by decide) rfl
            have hKc := hK.sub (tys' := [(cf2, .int)]) [4] rfl
            have hFc := va_free (wc := [(h0, .inr (13, z_9)), (qf2, .inl (cf2, 3000, .inl f2))]) hD hS hA [4, 5] rfl
            refine va_calli (va_runV (As := [.int (l1_92 + l3_92)]) (rest := []) ⟨hx, hb, hml, hown, hts⟩ (tm_at l dC dI H.size h0 z_9 ((l1_92 + l3_92)) qf2 v3 cf2 f2 nf u11_0 hln_9 hfk_9_2 hfk_9_3 hu_11) (cwV 1 hts gv_h9_2 rfl rfl rfl (by decide +kernel) ⟨Nat.le_of_ble_eq_true rfl, Nat.le_of_ble_eq_true rfl⟩) ⟨fun a U g mk q => by obtain ⟨q0, q1, qP, qK, qD⟩ := q; exact ⟨q0, q1, qP, va_K.moved (u := U) (U := U.calling g mk a) (Vm.Alike.refl U.vm) qK, qD⟩, va_recv hKc hPc (ci := 13) (q0 := 0) rfl rfl, fun U hU hW => ⟨rfl, by rw [hU], by rw [hU]; exact hPc, va_K.moved hW.alike hKc, hDc.weaken (fun _ _ _ _ => trivial)⟩⟩ rfl rfl hl.1 rfl (lv_room (Nat.le_of_ble_eq_true rfl)) dX13_tokenize_109 ⟨Nat.le_of_ble_eq_true rfl, Nat.le_of_ble_eq_true rfl⟩) hS (fun q _ h => hFc q h) hFc ?_
            clear hS
            intro r_37 u t H1 locs ht hvm hw hB hz1 hk1 hS
            obtain ⟨z_11, rfl⟩ : ∃ z, z = u := ⟨_, rfl⟩
            obtain ⟨hP1, hK1, hD1⟩ := hB
            rw [ht] at hP1
            have hK1 := va_K.moved hvm.symm hK1
            try dsimp only at hw
            have hPD := va_join (wr := [(qf4, .inl (cf4, 3008, .inl g4_92)), (qf5, .inl (cf5, 3002, .inl g5_92)), (qf6, .inl (cf6, 3002, .inl g6_92)), (qf7, .inl (cf7, 3002, .inl g7_92))]) (w1 := [(h0, .inr (13, z_11)), (qf2, .inl (cf2, 3000, .inl f2))]) hP hD [4, 5] [0, 1, 2, 3] rfl rfl (by decide) (by decide) hk1 hFc hP1 hD1
            clear hP hD
            obtain ⟨hP, hD⟩ := hPD
            replace hK := (hK.sub (tys' := [(cf4, .int), (cf5, .int), (cf6, .int), (cf7, .int)]) [0, 1, 2, 3] rfl).app hK1
            clear hPc hDc hKc hFc hP1 hK1 hD1 hz1 hk1 ht hvm
            generalize H1 = H at hP hS ⊢
            replace hP : va_P (dC, dI) vwCl [(qf4, .inl (cf4, 3008, .inl g4_92)), (qf5, .inl (cf5, 3002, .inl g5_92)), (qf6, .inl (cf6, 3002, .inl g6_92)), (qf7, .inl (cf7, 3002, .inl g7_92)), (h0, .inr (13, z_11)), (qf2, .inl (cf2, 3000, .inl f2))] H := hP
            replace hD : va_D A [(qf4, .inl (cf4, 3008, .inl g4_92)), (qf5, .inl (cf5, 3002, .inl g5_92)), (qf6, .inl (cf6, 3002, .inl g6_92)), (qf7, .inl (cf7, 3002, .inl g7_92)), (h0, .inr (13, z_11)), (qf2, .inl (cf2, 3000, .inl f2))] := hD
            replace hK : va_K (dC, dI) vwCl [(cf4, .int), (cf5, .int), (cf6, .int), (cf7, .int), (cf2, .int)] s := hK
            obtain ⟨hwa_11, hln_11, hre_11⟩ := hw
            have hfk_11_2 : z_11[2]? = some (.ref qf2) := (hre_11 2 ).trans (hfk_9_2)
            have hfk_11_3 : z_11[3]? = some (.int v3) := (hre_11 3 ).trans (hfk_9_3)
            have hfk_11_4 : z_11[4]? = some (.ref qf4) := (hre_11 4 ).trans (hfk_9_4)
            have hfk_11_5 : z_11[5]? = some (.ref qf5) := (hre_11 5 ).trans (hfk_9_5)
            have hfk_11_6 : z_11[6]? = some (.ref qf6) := (hre_11 6 ).trans (hfk_9_6)
            have hfk_11_7 : z_11[7]? = some (.ref qf7) := (hre_11 7 ).trans (hfk_9_7)
            have hfk_11_8 : z_11[8]? = some (.int x8_92) := (hre_11 8 ).trans (hfk_9_8)
            have hrq_11 : ∀ j : Nat, j ≠ 8 → z_11[j]? = zs[j]? := fun j g8 => (hre_11 j ).trans (hrq_9 j g8)
            obtain rfl := hwa_11
            obtain ⟨u12_0, hu_12, hsp⟩ := ox_bind hsp
            try dsimp only at hsp
            have hPc := hP.sub (ws' := []) [] rfl
            have hDc := hD.sub (ws' := []) [] (by decide) rfl
            have hKc := hK.sub (tys' := []) [] rfl
            have hFc := va_free (wc := []) hD hS hA [] rfl
            refine va_calli (va_runS (As := [.int u11_0]) (rest := []) ⟨hx, hb, hml, hown, hts⟩ (tm_isDigit l dC dI H.size u11_0 nf u12_0 hu_12) (va_cwS 1 hts gv_h9_5 rfl rfl rfl (by decide +kernel) ⟨Nat.le_of_ble_eq_true rfl, Nat.le_of_ble_eq_true rfl⟩) ⟨fun a U g mk q => by obtain ⟨q0, q1, qP, qK, qD⟩ := q; exact ⟨q0, q1, qP, va_K.moved (u := U) (U := U.calling g mk a) (Vm.Alike.refl U.vm) qK, qD⟩, fun U hU hW => ⟨rfl, by rw [hU], by rw [hU]; exact hPc, va_K.moved hW.alike hKc, hDc.weaken (fun _ _ _ _ => trivial)⟩⟩ rfl rfl hl.1 rfl (lv_room (Nat.le_of_ble_eq_true rfl)) dX13_tokenize_112 ⟨Nat.le_of_ble_eq_true rfl, Nat.le_of_ble_eq_true rfl⟩) hS (fun q _ h => hFc q h) hFc ?_
            clear hS
            intro r_38 u t H1 locs ht hvm hw hB hz1 hk1 hS
            obtain ⟨⟩ := u
            obtain ⟨hP1, hK1, hD1⟩ := hB
            rw [ht] at hP1
            have hK1 := va_K.moved hvm.symm hK1
            try dsimp only at hw
            have hPD := va_join (wr := [(qf4, .inl (cf4, 3008, .inl g4_92)), (qf5, .inl (cf5, 3002, .inl g5_92)), (qf6, .inl (cf6, 3002, .inl g6_92)), (qf7, .inl (cf7, 3002, .inl g7_92)), (h0, .inr (13, z_11)), (qf2, .inl (cf2, 3000, .inl f2))]) (w1 := []) hP hD [] [0, 1, 2, 3, 4, 5] rfl rfl (by decide) (by decide) hk1 hFc hP1 hD1
            clear hP hD
            obtain ⟨hP, hD⟩ := hPD
            replace hK := (hK.sub (tys' := [(cf4, .int), (cf5, .int), (cf6, .int), (cf7, .int), (cf2, .int)]) [0, 1, 2, 3, 4] rfl).app hK1
            clear hPc hDc hKc hFc hP1 hK1 hD1 hz1 hk1 ht hvm
            generalize H1 = H at hP hS ⊢
            replace hP : va_P (dC, dI) vwCl [(qf4, .inl (cf4, 3008, .inl g4_92)), (qf5, .inl (cf5, 3002, .inl g5_92)), (qf6, .inl (cf6, 3002, .inl g6_92)), (qf7, .inl (cf7, 3002, .inl g7_92)), (h0, .inr (13, z_11)), (qf2, .inl (cf2, 3000, .inl f2))] H := hP
            replace hD : va_D A [(qf4, .inl (cf4, 3008, .inl g4_92)), (qf5, .inl (cf5, 3002, .inl g5_92)), (qf6, .inl (cf6, 3002, .inl g6_92)), (qf7, .inl (cf7, 3002, .inl g7_92)), (h0, .inr (13, z_11)), (qf2, .inl (cf2, 3000, .inl f2))] := hD
            replace hK : va_K (dC, dI) vwCl [(cf4, .int), (cf5, .int), (cf6, .int), (cf7, .int), (cf2, .int)] s := hK
            obtain ⟨rfl, hz_12⟩ := hw
            rcases hz_12 with rfl | rfl
            · rw [if_pos rfl] at hsp
              refine lv_if_ne (tgt := 130) hx hb dX13_tokenize_115 (by decide) (fun c_39 => (show False by revert c_39; decide).elim) (fun c_39 => ?_)
              refine lv_aload_n hx hb dX13_tokenize_118 rfl (lv_at hl 1 rfl) ?_
              refine lv_iload_n hx hb dX13_tokenize_119 rfl (lv_at hl 2 rfl) ?_
              refine lv_iload_n hx hb dX13_tokenize_120 rfl (lv_at hl 0 rfl) ?_
              refine lv_iadd hx hb dX13_tokenize_121 ?_
              obtain ⟨u13_0, hu_13, hsp⟩ := ox_bind hsp
              try dsimp only at hsp
              have hPc := hP.sub (ws' := [(h0, .inr (13, z_11)), (qf2, .inl (cf2, 3000, .inl f2))]) [4, 5] rfl
              have hDc := hD.sub (ws' := [(h0, .inr (13, z_11)), (qf2, .inl (cf2, 3000, .inl f2))]) [4, 5] (by decide) rfl
              have hKc := hK.sub (tys' := [(cf2, .int)]) [4] rfl
              have hFc := va_free (wc := [(h0, .inr (13, z_11)), (qf2, .inl (cf2, 3000, .inl f2))]) hD hS hA [4, 5] rfl
              refine va_calli (va_runV (As := [.int (l1_92 + l3_92)]) (rest := []) ⟨hx, hb, hml, hown, hts⟩ (tm_at l dC dI H.size h0 z_11 ((l1_92 + l3_92)) qf2 v3 cf2 f2 nf u13_0 hln_11 hfk_11_2 hfk_11_3 hu_13) (cwV 1 hts gv_h9_2 rfl rfl rfl (by decide +kernel) ⟨Nat.le_of_ble_eq_true rfl, Nat.le_of_ble_eq_true rfl⟩) ⟨fun a U g mk q => by obtain ⟨q0, q1, qP, qK, qD⟩ := q; exact ⟨q0, q1, qP, va_K.moved (u := U) (U := U.calling g mk a) (Vm.Alike.refl U.vm) qK, qD⟩, va_recv hKc hPc (ci := 13) (q0 := 0) rfl rfl, fun U hU hW => ⟨rfl, by rw [hU], by rw [hU]; exact hPc, va_K.moved hW.alike hKc, hDc.weaken (fun _ _ _ _ => trivial)⟩⟩ rfl rfl hl.1 rfl (lv_room (Nat.le_of_ble_eq_true rfl)) dX13_tokenize_122 ⟨Nat.le_of_ble_eq_true rfl, Nat.le_of_ble_eq_true rfl⟩) hS (fun q _ h => hFc q h) hFc ?_
              clear hS
              intro r_40 u t H1 locs ht hvm hw hB hz1 hk1 hS
              obtain ⟨z_13, rfl⟩ : ∃ z, z = u := ⟨_, rfl⟩
              obtain ⟨hP1, hK1, hD1⟩ := hB
              rw [ht] at hP1
              have hK1 := va_K.moved hvm.symm hK1
              try dsimp only at hw
              have hPD := va_join (wr := [(qf4, .inl (cf4, 3008, .inl g4_92)), (qf5, .inl (cf5, 3002, .inl g5_92)), (qf6, .inl (cf6, 3002, .inl g6_92)), (qf7, .inl (cf7, 3002, .inl g7_92))]) (w1 := [(h0, .inr (13, z_13)), (qf2, .inl (cf2, 3000, .inl f2))]) hP hD [4, 5] [0, 1, 2, 3] rfl rfl (by decide) (by decide) hk1 hFc hP1 hD1
              clear hP hD
              obtain ⟨hP, hD⟩ := hPD
              replace hK := (hK.sub (tys' := [(cf4, .int), (cf5, .int), (cf6, .int), (cf7, .int)]) [0, 1, 2, 3] rfl).app hK1
              clear hPc hDc hKc hFc hP1 hK1 hD1 hz1 hk1 ht hvm
              generalize H1 = H at hP hS ⊢
              replace hP : va_P (dC, dI) vwCl [(qf4, .inl (cf4, 3008, .inl g4_92)), (qf5, .inl (cf5, 3002, .inl g5_92)), (qf6, .inl (cf6, 3002, .inl g6_92)), (qf7, .inl (cf7, 3002, .inl g7_92)), (h0, .inr (13, z_13)), (qf2, .inl (cf2, 3000, .inl f2))] H := hP
              replace hD : va_D A [(qf4, .inl (cf4, 3008, .inl g4_92)), (qf5, .inl (cf5, 3002, .inl g5_92)), (qf6, .inl (cf6, 3002, .inl g6_92)), (qf7, .inl (cf7, 3002, .inl g7_92)), (h0, .inr (13, z_13)), (qf2, .inl (cf2, 3000, .inl f2))] := hD
              replace hK : va_K (dC, dI) vwCl [(cf4, .int), (cf5, .int), (cf6, .int), (cf7, .int), (cf2, .int)] s := hK
              obtain ⟨hwa_13, hln_13, hre_13⟩ := hw
              have hfk_13_2 : z_13[2]? = some (.ref qf2) := (hre_13 2 ).trans (hfk_11_2)
              have hfk_13_3 : z_13[3]? = some (.int v3) := (hre_13 3 ).trans (hfk_11_3)
              have hfk_13_4 : z_13[4]? = some (.ref qf4) := (hre_13 4 ).trans (hfk_11_4)
              have hfk_13_5 : z_13[5]? = some (.ref qf5) := (hre_13 5 ).trans (hfk_11_5)
              have hfk_13_6 : z_13[6]? = some (.ref qf6) := (hre_13 6 ).trans (hfk_11_6)
              have hfk_13_7 : z_13[7]? = some (.ref qf7) := (hre_13 7 ).trans (hfk_11_7)
              have hfk_13_8 : z_13[8]? = some (.int x8_92) := (hre_13 8 ).trans (hfk_11_8)
              have hrq_13 : ∀ j : Nat, j ≠ 8 → z_13[j]? = zs[j]? := fun j g8 => (hre_13 j ).trans (hrq_11 j g8)
              obtain rfl := hwa_13
              refine lv_bipush (v := 95) hx hb dX13_tokenize_125 (by decide) ?_
              refine lv_icmp_ne (tgt := 136) hx hb dX13_tokenize_127 (by decide) (fun c_41 => ?_) (fun c_41 => ?_)
              · rw [if_neg c_41] at hsp
                refine lv_aload_n hx hb dX13_tokenize_136 rfl (lv_at hl 1 rfl) ?_
                refine pw_ldcwS hx hb hown hZRS352 dX13_tokenize_137 ?_
                refine lv_iload_n hx hb dX13_tokenize_140 rfl (lv_at hl 2 rfl) ?_
                refine lv_iload_n hx hb dX13_tokenize_141 rfl (lv_at hl 0 rfl) ?_
                obtain ⟨u14_0, hu_14, hsp⟩ := ox_bind hsp
                try dsimp only at hsp
                have hPc := hP.sub (ws' := [(h0, .inr (13, z_13)), (qf2, .inl (cf2, 3000, .inl f2))]) [4, 5] rfl
                have hDc := hD.sub (ws' := [(h0, .inr (13, z_13)), (qf2, .inl (cf2, 3000, .inl f2))]) [4, 5] (by decide) rfl
                have hKc := hK.sub (tys' := [(cf2, .int)]) [4] rfl
                have hFc := va_free (wc := [(h0, .inr (13, z_13)), (qf2, .inl (cf2, 3000, .inl f2))]) hD hS hA [4, 5] rfl
                refine va_calli (va_runV (As := [.ref hS352, .int l1_92, .int l3_92]) (rest := []) ⟨hx, hb, hml, hown, hts⟩ (vm_among l dC dI H.size h0 z_13 hS352 l1_92 l3_92 qf2 cf2 f2 nS352 fS352 qS352 nf u14_0 hln_13 hfk_13_2 hu_14) (cwV 3 hts gv_h9_7 rfl rfl rfl (by decide +kernel) ⟨Nat.le_of_ble_eq_true rfl, Nat.le_of_ble_eq_true rfl⟩) ⟨fun a U g mk q => by obtain ⟨q0, q1, qP, qK, qD, qhZWSa1⟩ := q; exact ⟨q0, q1, qP, va_K.moved (u := U) (U := U.calling g mk a) (Vm.Alike.refl U.vm) qK, qD, pz_W.moved (u := U) (U := U.calling g mk a) (Vm.Alike.refl U.vm) qhZWSa1⟩, va_recv hKc hPc (ci := 13) (q0 := 0) rfl rfl, fun U hU hW => ⟨rfl, by rw [hU], by rw [hU]; exact hPc, va_K.moved hW.alike hKc, hDc.weaken (fun _ _ _ _ => trivial), by rw [hU]; exact ((pz_W.moved hW.alike hZWS352).kept hS.2.1).narrow hFc⟩⟩ rfl rfl hl.1 rfl (lv_room (Nat.le_of_ble_eq_true rfl)) dX13_tokenize_142 ⟨Nat.le_of_ble_eq_true rfl, Nat.le_of_ble_eq_true rfl⟩) hS (fun q _ h => hFc q h) hFc ?_
                clear hS
                intro r_42 u t H1 locs ht hvm hw hB hz1 hk1 hS
                obtain ⟨z_14, rfl⟩ : ∃ z, z = u := ⟨_, rfl⟩
                obtain ⟨hP1, hK1, hD1⟩ := hB
                rw [ht] at hP1
                have hK1 := va_K.moved hvm.symm hK1
                try dsimp only at hw
                have hPD := va_join (wr := [(qf4, .inl (cf4, 3008, .inl g4_92)), (qf5, .inl (cf5, 3002, .inl g5_92)), (qf6, .inl (cf6, 3002, .inl g6_92)), (qf7, .inl (cf7, 3002, .inl g7_92))]) (w1 := [(h0, .inr (13, z_14)), (qf2, .inl (cf2, 3000, .inl f2))]) hP hD [4, 5] [0, 1, 2, 3] rfl rfl (by decide) (by decide) hk1 hFc hP1 hD1
                clear hP hD
                obtain ⟨hP, hD⟩ := hPD
                replace hK := (hK.sub (tys' := [(cf4, .int), (cf5, .int), (cf6, .int), (cf7, .int)]) [0, 1, 2, 3] rfl).app hK1
                clear hPc hDc hKc hFc hP1 hK1 hD1 hz1 hk1 ht hvm
                generalize H1 = H at hP hS ⊢
                replace hP : va_P (dC, dI) vwCl [(qf4, .inl (cf4, 3008, .inl g4_92)), (qf5, .inl (cf5, 3002, .inl g5_92)), (qf6, .inl (cf6, 3002, .inl g6_92)), (qf7, .inl (cf7, 3002, .inl g7_92)), (h0, .inr (13, z_14)), (qf2, .inl (cf2, 3000, .inl f2))] H := hP
                replace hD : va_D A [(qf4, .inl (cf4, 3008, .inl g4_92)), (qf5, .inl (cf5, 3002, .inl g5_92)), (qf6, .inl (cf6, 3002, .inl g6_92)), (qf7, .inl (cf7, 3002, .inl g7_92)), (h0, .inr (13, z_14)), (qf2, .inl (cf2, 3000, .inl f2))] := hD
                replace hK : va_K (dC, dI) vwCl [(cf4, .int), (cf5, .int), (cf6, .int), (cf7, .int), (cf2, .int)] s := hK
                obtain ⟨hwa_14, hln_14, hre_14⟩ := hw
                have hfk_14_2 : z_14[2]? = some (.ref qf2) := (hre_14 2 ).trans (hfk_13_2)
                have hfk_14_3 : z_14[3]? = some (.int v3) := (hre_14 3 ).trans (hfk_13_3)
                have hfk_14_4 : z_14[4]? = some (.ref qf4) := (hre_14 4 ).trans (hfk_13_4)
                have hfk_14_5 : z_14[5]? = some (.ref qf5) := (hre_14 5 ).trans (hfk_13_5)
                have hfk_14_6 : z_14[6]? = some (.ref qf6) := (hre_14 6 ).trans (hfk_13_6)
                have hfk_14_7 : z_14[7]? = some (.ref qf7) := (hre_14 7 ).trans (hfk_13_7)
                have hfk_14_8 : z_14[8]? = some (.int x8_92) := (hre_14 8 ).trans (hfk_13_8)
                have hrq_14 : ∀ j : Nat, j ≠ 8 → z_14[j]? = zs[j]? := fun j g8 => (hre_14 j ).trans (hrq_13 j g8)
                obtain rfl := hwa_14
                refine lv_istore (lv' := [(4, .int u14_0), (3, .int l3_92), (0, .ref h0), (1, .int l1_92)]) hx hb dX13_tokenize_145 hl (by decide) rfl (fun ls hl => ?_)
                refine lv_aload_n hx hb dX13_tokenize_147 rfl (lv_at hl 2 rfl) ?_
                refine lv_iload hx hb dX13_tokenize_148 (lv_at hl 0 rfl) ?_
                refine lv_if_lt (tgt := 157) hx hb dX13_tokenize_150 (by decide) (fun c_43 => ?_) (fun c_43 => ?_)
                · rw [if_pos c_43] at hsp
                  refine lv_iload_n hx hb dX13_tokenize_157 rfl (lv_at hl 1 rfl) ?_
                  refine lv_bipush (v := 12) hx hb dX13_tokenize_158 (by decide) ?_
                  refine lv_icmp_gt (tgt := 167) hx hb dX13_tokenize_160 (by decide) (fun c_44 => ?_) (fun c_44 => ?_)
                  · rw [if_pos c_44] at hsp
                    refine lv_bipush (v := 6) hx hb dX13_tokenize_167 (by decide) ?_
                    exact hj_169 (H, locs, ls, z_14, l1_92, l3_92, u14_0, 6, g4_92, g5_92, g6_92, g7_92, x8_92) ⟨lv_sub hl [2, 3, 1, 0] rfl, hS, hD.sub (ws' := [(h0, .inr (13, z_14)), (qf4, .inl (cf4, 3008, .inl g4_92)), (qf5, .inl (cf5, 3002, .inl g5_92)), (qf6, .inl (cf6, 3002, .inl g6_92)), (qf7, .inl (cf7, 3002, .inl g7_92)), (qf2, .inl (cf2, 3000, .inl f2))]) [4, 0, 1, 2, 3, 5] (by decide) rfl, hP.sub (ws' := [(h0, .inr (13, z_14)), (qf4, .inl (cf4, 3008, .inl g4_92)), (qf5, .inl (cf5, 3002, .inl g5_92)), (qf6, .inl (cf6, 3002, .inl g6_92)), (qf7, .inl (cf7, 3002, .inl g7_92)), (qf2, .inl (cf2, 3000, .inl f2))]) [4, 0, 1, 2, 3, 5] rfl, hfk_14_2, hfk_14_3, hfk_14_4, hfk_14_5, hfk_14_6, hfk_14_7, hfk_14_8, hln_14, hrq_14, hsp⟩
                  · rw [if_neg c_44] at hsp
                    refine lv_iconst (v := 1) hx hb dX13_tokenize_163 (by decide) ?_
                    refine lv_goto (tgt := 169) hx hb dX13_tokenize_164 (by decide) ?_
                    exact hj_169 (H, locs, ls, z_14, l1_92, l3_92, u14_0, 1, g4_92, g5_92, g6_92, g7_92, x8_92) ⟨lv_sub hl [2, 3, 1, 0] rfl, hS, hD.sub (ws' := [(h0, .inr (13, z_14)), (qf4, .inl (cf4, 3008, .inl g4_92)), (qf5, .inl (cf5, 3002, .inl g5_92)), (qf6, .inl (cf6, 3002, .inl g6_92)), (qf7, .inl (cf7, 3002, .inl g7_92)), (qf2, .inl (cf2, 3000, .inl f2))]) [4, 0, 1, 2, 3, 5] (by decide) rfl, hP.sub (ws' := [(h0, .inr (13, z_14)), (qf4, .inl (cf4, 3008, .inl g4_92)), (qf5, .inl (cf5, 3002, .inl g5_92)), (qf6, .inl (cf6, 3002, .inl g6_92)), (qf7, .inl (cf7, 3002, .inl g7_92)), (qf2, .inl (cf2, 3000, .inl f2))]) [4, 0, 1, 2, 3, 5] rfl, hfk_14_2, hfk_14_3, hfk_14_4, hfk_14_5, hfk_14_6, hfk_14_7, hfk_14_8, hln_14, hrq_14, hsp⟩
                · rw [if_neg c_43] at hsp
                  refine lv_iconst (v := 3) hx hb dX13_tokenize_153 (by decide) ?_
                  refine lv_goto (tgt := 169) hx hb dX13_tokenize_154 (by decide) ?_
                  exact hj_169 (H, locs, ls, z_14, l1_92, l3_92, u14_0, 3, g4_92, g5_92, g6_92, g7_92, x8_92) ⟨lv_sub hl [2, 3, 1, 0] rfl, hS, hD.sub (ws' := [(h0, .inr (13, z_14)), (qf4, .inl (cf4, 3008, .inl g4_92)), (qf5, .inl (cf5, 3002, .inl g5_92)), (qf6, .inl (cf6, 3002, .inl g6_92)), (qf7, .inl (cf7, 3002, .inl g7_92)), (qf2, .inl (cf2, 3000, .inl f2))]) [4, 0, 1, 2, 3, 5] (by decide) rfl, hP.sub (ws' := [(h0, .inr (13, z_14)), (qf4, .inl (cf4, 3008, .inl g4_92)), (qf5, .inl (cf5, 3002, .inl g5_92)), (qf6, .inl (cf6, 3002, .inl g6_92)), (qf7, .inl (cf7, 3002, .inl g7_92)), (qf2, .inl (cf2, 3000, .inl f2))]) [4, 0, 1, 2, 3, 5] rfl, hfk_14_2, hfk_14_3, hfk_14_4, hfk_14_5, hfk_14_6, hfk_14_7, hfk_14_8, hln_14, hrq_14, hsp⟩
              · rw [if_pos c_41] at hsp
                refine lv_iinc (v := (l3_92 + 1)) (lv' := [(3, .int (l3_92 + 1)), (0, .ref h0), (1, .int l1_92)]) hx hb dX13_tokenize_130 hl (k := 0) rfl rfl (by decide) rfl (fun ls hl => ?_)
                refine lv_goto (tgt := 92) hx hb dX13_tokenize_133 (by decide) ?_
                exact ih_92 H locs ls z_13 l1_92 (l3_92 + 1) g4_92 g5_92 g6_92 g7_92 x8_92 (hfk_13_2) (hfk_13_3) (hfk_13_4) (hfk_13_5) (hfk_13_6) (hfk_13_7) (hfk_13_8) hln_13 hrq_13 (lv_sub hl [0, 1, 2] rfl) hS (hD.sub (ws' := [(h0, .inr (13, z_13)), (qf4, .inl (cf4, 3008, .inl g4_92)), (qf5, .inl (cf5, 3002, .inl g5_92)), (qf6, .inl (cf6, 3002, .inl g6_92)), (qf7, .inl (cf7, 3002, .inl g7_92)), (qf2, .inl (cf2, 3000, .inl f2))]) [4, 0, 1, 2, 3, 5] (by decide) rfl) (hP.sub (ws' := [(h0, .inr (13, z_13)), (qf4, .inl (cf4, 3008, .inl g4_92)), (qf5, .inl (cf5, 3002, .inl g5_92)), (qf6, .inl (cf6, 3002, .inl g6_92)), (qf7, .inl (cf7, 3002, .inl g7_92)), (qf2, .inl (cf2, 3000, .inl f2))]) [4, 0, 1, 2, 3, 5] rfl) hsp
            · rw [if_neg (by decide)] at hsp
              refine lv_if_ne (tgt := 130) hx hb dX13_tokenize_115 (by decide) (fun c_45 => ?_) (fun c_45 => (show False by revert c_45; decide).elim)
              refine lv_iinc (v := (l3_92 + 1)) (lv' := [(3, .int (l3_92 + 1)), (0, .ref h0), (1, .int l1_92)]) hx hb dX13_tokenize_130 hl (k := 0) rfl rfl (by decide) rfl (fun ls hl => ?_)
              refine lv_goto (tgt := 92) hx hb dX13_tokenize_133 (by decide) ?_
              exact ih_92 H locs ls z_11 l1_92 (l3_92 + 1) g4_92 g5_92 g6_92 g7_92 x8_92 (hfk_11_2) (hfk_11_3) (hfk_11_4) (hfk_11_5) (hfk_11_6) (hfk_11_7) (hfk_11_8) hln_11 hrq_11 (lv_sub hl [0, 1, 2] rfl) hS (hD.sub (ws' := [(h0, .inr (13, z_11)), (qf4, .inl (cf4, 3008, .inl g4_92)), (qf5, .inl (cf5, 3002, .inl g5_92)), (qf6, .inl (cf6, 3002, .inl g6_92)), (qf7, .inl (cf7, 3002, .inl g7_92)), (qf2, .inl (cf2, 3000, .inl f2))]) [4, 0, 1, 2, 3, 5] (by decide) rfl) (hP.sub (ws' := [(h0, .inr (13, z_11)), (qf4, .inl (cf4, 3008, .inl g4_92)), (qf5, .inl (cf5, 3002, .inl g5_92)), (qf6, .inl (cf6, 3002, .inl g6_92)), (qf7, .inl (cf7, 3002, .inl g7_92)), (qf2, .inl (cf2, 3000, .inl f2))]) [4, 0, 1, 2, 3, 5] rfl) hsp
          · rw [if_neg (by decide)] at hsp
            refine lv_if_ne (tgt := 130) hx hb dX13_tokenize_102 (by decide) (fun c_46 => ?_) (fun c_46 => (show False by revert c_46; decide).elim)
            refine lv_iinc (v := (l3_92 + 1)) (lv' := [(3, .int (l3_92 + 1)), (0, .ref h0), (1, .int l1_92)]) hx hb dX13_tokenize_130 hl (k := 0) rfl rfl (by decide) rfl (fun ls hl => ?_)
            refine lv_goto (tgt := 92) hx hb dX13_tokenize_133 (by decide) ?_
            exact ih_92 H locs ls z_9 l1_92 (l3_92 + 1) g4_92 g5_92 g6_92 g7_92 x8_92 (hfk_9_2) (hfk_9_3) (hfk_9_4) (hfk_9_5) (hfk_9_6) (hfk_9_7) (hfk_9_8) hln_9 hrq_9 (lv_sub hl [0, 1, 2] rfl) hS (hD.sub (ws' := [(h0, .inr (13, z_9)), (qf4, .inl (cf4, 3008, .inl g4_92)), (qf5, .inl (cf5, 3002, .inl g5_92)), (qf6, .inl (cf6, 3002, .inl g6_92)), (qf7, .inl (cf7, 3002, .inl g7_92)), (qf2, .inl (cf2, 3000, .inl f2))]) [4, 0, 1, 2, 3, 5] (by decide) rfl) (hP.sub (ws' := [(h0, .inr (13, z_9)), (qf4, .inl (cf4, 3008, .inl g4_92)), (qf5, .inl (cf5, 3002, .inl g5_92)), (qf6, .inl (cf6, 3002, .inl g6_92)), (qf7, .inl (cf7, 3002, .inl g7_92)), (qf2, .inl (cf2, 3000, .inl f2))]) [4, 0, 1, 2, 3, 5] rfl) hsp
    intro hj_83
    refine lv_iload_n hx hb dX13_tokenize_7 rfl (lv_at hl 0 rfl) ?_
    refine lv_aload_n hx hb dX13_tokenize_8 rfl (lv_at hl 1 rfl) ?_
    refine va_get (D := (dC, dI)) (ci := 13) (v := .int v3) (C := RX13) (T := TX13) (N := 155) hx hb hts uV_h9_X13 hown hK hP 0 rfl rfl 3 (by decide) (hts (.fieldLink RX13 325 "ClassMillModel" "size" "I") mw_h9_37) (fun _ h9 => h9) hfh_7_3 dX13_tokenize_9 ?_
    refine lv_icmp_ge (tgt := 433) hx hb dX13_tokenize_12 (by decide) (fun c_3 => ?_) (fun c_3 => ?_)
    · rw [if_pos c_3] at hsp
      refine lv_aload_n hx hb dX13_tokenize_433 rfl (lv_at hl 1 rfl) ?_
      refine lv_iconst (v := 5) hx hb dX13_tokenize_434 (by decide) ?_
      refine lv_aload_n hx hb dX13_tokenize_435 rfl (lv_at hl 1 rfl) ?_
      refine va_get (D := (dC, dI)) (ci := 13) (v := .int v3) (C := RX13) (T := TX13) (N := 155) hx hb hts uV_h9_X13 hown hK hP 0 rfl rfl 3 (by decide) (hts (.fieldLink RX13 325 "ClassMillModel" "size" "I") mw_h9_37) (fun _ h9 => h9) hfh_7_3 dX13_tokenize_436 ?_
      refine lv_iconst (v := 0) hx hb dX13_tokenize_439 (by decide) ?_
      refine lv_iconst (v := 0) hx hb dX13_tokenize_440 (by decide) ?_
      obtain ⟨⟨g901_0, g901_1, g901_2, g901_3, u1_4⟩, hu_1, hsp⟩ := ox_bind hsp
      try dsimp only at hsp
      have hPc := hP.sub (ws' := [(h0, .inr (13, z7)), (qf4, .inl (cf4, 3008, .inl g4_7)), (qf5, .inl (cf5, 3002, .inl g5_7)), (qf6, .inl (cf6, 3002, .inl g6_7)), (qf7, .inl (cf7, 3002, .inl g7_7))]) [0, 1, 2, 3, 4] rfl
      have hDc := hD.sub (ws' := [(h0, .inr (13, z7)), (qf4, .inl (cf4, 3008, .inl g4_7)), (qf5, .inl (cf5, 3002, .inl g5_7)), (qf6, .inl (cf6, 3002, .inl g6_7)), (qf7, .inl (cf7, 3002, .inl g7_7))]) [0, 1, 2, 3, 4] (by decide) rfl
      have hKc := hK.sub (tys' := [(cf4, .int), (cf5, .int), (cf6, .int), (cf7, .int)]) [0, 1, 2, 3] rfl
      have hFc := va_free (wc := [(h0, .inr (13, z7)), (qf4, .inl (cf4, 3008, .inl g4_7)), (qf5, .inl (cf5, 3002, .inl g5_7)), (qf6, .inl (cf6, 3002, .inl g6_7)), (qf7, .inl (cf7, 3002, .inl g7_7))]) hD hS hA [0, 1, 2, 3, 4] rfl
      refine va_callv (va_runV (As := [.int 5, .int v3, .int 0, .int 0]) (rest := []) ⟨hx, hb, hml, hown, hts⟩ (tm_token l dC dI H.size h0 z7 5 v3 0 0 qf4 qf5 qf6 qf7 x8_7 cf4 g4_7 cf5 g5_7 cf6 g6_7 cf7 g7_7 nf g901_0 g901_1 g901_2 g901_3 u1_4 hlh_7 hfh_7_4 hfh_7_5 hfh_7_6 hfh_7_7 hfh_7_8 hu_1) (cwV 4 hts gv_h9_3 rfl rfl rfl (by decide +kernel) ⟨Nat.le_of_ble_eq_true rfl, Nat.le_of_ble_eq_true rfl⟩) ⟨fun a U g mk q => by obtain ⟨q0, q1, qP, qK, qD⟩ := q; exact ⟨q0, q1, qP, va_K.moved (u := U) (U := U.calling g mk a) (Vm.Alike.refl U.vm) qK, qD⟩, va_recv hKc hPc (ci := 13) (q0 := 0) rfl rfl, fun U hU hW => ⟨rfl, by rw [hU], by rw [hU]; exact hPc, va_K.moved hW.alike hKc, hDc.weaken (fun _ _ _ _ => trivial)⟩⟩ rfl rfl hl.1 rfl (lv_room (Nat.le_of_ble_eq_true rfl)) dX13_tokenize_441 ⟨Nat.le_of_ble_eq_true rfl, Nat.le_of_ble_eq_true rfl⟩) hS (fun q _ h => hFc q h) hFc ?_
      clear hS
      intro u t H1 locs ht hvm hw hB hz1 hk1 hS
      obtain ⟨z_1, rfl⟩ : ∃ z, z = u := ⟨_, rfl⟩
      obtain ⟨hP1, hK1, hD1⟩ := hB
      rw [ht] at hP1
      have hK1 := va_K.moved hvm.symm hK1
      try dsimp only at hw
      have hPD := va_join (wr := [(qf2, .inl (cf2, 3000, .inl f2))]) (w1 := [(h0, .inr (13, z_1)), (qf4, .inl (cf4, 3008, .inl g901_0)), (qf5, .inl (cf5, 3002, .inl g901_1)), (qf6, .inl (cf6, 3002, .inl g901_2)), (qf7, .inl (cf7, 3002, .inl g901_3))]) hP hD [0, 1, 2, 3, 4] [5] rfl rfl (by decide) (by decide) hk1 hFc hP1 hD1
      clear hP hD
      obtain ⟨hP, hD⟩ := hPD
      replace hK := (hK.sub (tys' := [(cf2, .int)]) [4] rfl).app hK1
      clear hPc hDc hKc hFc hP1 hK1 hD1 hz1 hk1 ht hvm
      generalize H1 = H at hP hS ⊢
      replace hP : va_P (dC, dI) vwCl [(qf2, .inl (cf2, 3000, .inl f2)), (h0, .inr (13, z_1)), (qf4, .inl (cf4, 3008, .inl g901_0)), (qf5, .inl (cf5, 3002, .inl g901_1)), (qf6, .inl (cf6, 3002, .inl g901_2)), (qf7, .inl (cf7, 3002, .inl g901_3))] H := hP
      replace hD : va_D A [(qf2, .inl (cf2, 3000, .inl f2)), (h0, .inr (13, z_1)), (qf4, .inl (cf4, 3008, .inl g901_0)), (qf5, .inl (cf5, 3002, .inl g901_1)), (qf6, .inl (cf6, 3002, .inl g901_2)), (qf7, .inl (cf7, 3002, .inl g901_3))] := hD
      replace hK : va_K (dC, dI) vwCl [(cf2, .int), (cf4, .int), (cf5, .int), (cf6, .int), (cf7, .int)] s := hK
      obtain ⟨hwa_1, hln_1, hre_1, hch_1_8⟩ := hw
      have hfk_1_2 : z_1[2]? = some (.ref qf2) := (hre_1 2 (by decide)).trans (hfh_7_2)
      have hfk_1_3 : z_1[3]? = some (.int v3) := (hre_1 3 (by decide)).trans (hfh_7_3)
      have hfk_1_4 : z_1[4]? = some (.ref qf4) := (hre_1 4 (by decide)).trans (hfh_7_4)
      have hfk_1_5 : z_1[5]? = some (.ref qf5) := (hre_1 5 (by decide)).trans (hfh_7_5)
      have hfk_1_6 : z_1[6]? = some (.ref qf6) := (hre_1 6 (by decide)).trans (hfh_7_6)
      have hfk_1_7 : z_1[7]? = some (.ref qf7) := (hre_1 7 (by decide)).trans (hfh_7_7)
      have hrq_1 : ∀ j : Nat, j ≠ 8 → z_1[j]? = zs[j]? := fun j g8 => (hre_1 j g8).trans (hrh_7 j g8)
      refine lv_aload_n hx hb dX13_tokenize_444 rfl (lv_at hl 1 rfl) ?_
      refine va_get (D := (dC, dI)) (ci := 13) (v := .int u1_4) (C := RX13) (T := TX13) (N := 155) hx hb hts uV_h9_X13 hown hK hP 1 rfl rfl 8 (by decide) (hts (.fieldLink RX13 338 "ClassMillModel" "tokens" "I") mw_h9_31) (fun _ h9 => h9) hch_1_8 dX13_tokenize_445 ?_
      refine lv_istore_n (lv' := [(2, .int u1_4), (1, .int l1_7), (0, .ref h0)]) hx hb dX13_tokenize_448 rfl hl (by decide) rfl (fun ls hl => ?_)
      replace hl : lv_has ls 7 [(2, .int u1_4), (0, .ref h0)] := lv_sub hl [0, 2] rfl
      replace hP := hP.sub (ws' := [(h0, .inr (13, z_1)), (qf4, .inl (cf4, 3008, .inl g901_0)), (qf5, .inl (cf5, 3002, .inl g901_1)), (qf6, .inl (cf6, 3002, .inl g901_2)), (qf7, .inl (cf7, 3002, .inl g901_3)), (qf2, .inl (cf2, 3000, .inl f2))]) [1, 2, 3, 4, 5, 0] rfl
      replace hD := hD.sub (ws' := [(h0, .inr (13, z_1)), (qf4, .inl (cf4, 3008, .inl g901_0)), (qf5, .inl (cf5, 3002, .inl g901_1)), (qf6, .inl (cf6, 3002, .inl g901_2)), (qf7, .inl (cf7, 3002, .inl g901_3)), (qf2, .inl (cf2, 3000, .inl f2))]) [1, 2, 3, 4, 5, 0] (by decide) rfl
      replace hK := hK.sub (tys' := [(cf4, .int), (cf5, .int), (cf6, .int), (cf7, .int), (cf2, .int)]) [1, 2, 3, 4, 0] rfl
      obtain ⟨n_449, hn_449⟩ : ∃ z : Nat, z = nf := ⟨_, rfl⟩
      obtain ⟨l2_449, el2_449⟩ : ∃ z : Int32, z = u1_4 := ⟨_, rfl⟩
      obtain ⟨g4_449, eg4_449⟩ : ∃ z : Nat → Int32, z = g901_0 := ⟨_, rfl⟩
      obtain ⟨g5_449, eg5_449⟩ : ∃ z : Nat → Int32, z = g901_1 := ⟨_, rfl⟩
      obtain ⟨g6_449, eg6_449⟩ : ∃ z : Nat → Int32, z = g901_2 := ⟨_, rfl⟩
      obtain ⟨g7_449, eg7_449⟩ : ∃ z : Nat → Int32, z = g901_3 := ⟨_, rfl⟩
      obtain ⟨x8_449, ex8_449⟩ : ∃ z : Int32, z = u1_4 := ⟨_, rfl⟩
      replace hsp : lp_vm_tokenize_449 nf n_449 v3 f4 f5 f6 f7 f2 nS352 fS352 l2_449 g4_449 g5_449 g6_449 g7_449 x8_449 = some (o4, o5, o6, o7, w8) := by rw [hn_449, el2_449, eg4_449, eg5_449, eg6_449, eg7_449, ex8_449]; exact hsp
      replace hl : lv_has ls 7 [(2, .int l2_449), (0, .ref h0)] := by rw [el2_449]; exact hl
      obtain ⟨z449, ez449⟩ : ∃ z : List Value, z = z_1 := ⟨_, rfl⟩
      have hfh_449_2 : z449[2]? = some (.ref qf2) := by rw [ez449]; exact hfk_1_2
      have hfh_449_3 : z449[3]? = some (.int v3) := by rw [ez449]; exact hfk_1_3
      have hfh_449_4 : z449[4]? = some (.ref qf4) := by rw [ez449]; exact hfk_1_4
      have hfh_449_5 : z449[5]? = some (.ref qf5) := by rw [ez449]; exact hfk_1_5
      have hfh_449_6 : z449[6]? = some (.ref qf6) := by rw [ez449]; exact hfk_1_6
      have hfh_449_7 : z449[7]? = some (.ref qf7) := by rw [ez449]; exact hfk_1_7
      have hfh_449_8 : z449[8]? = some (.int x8_449) := by rw [ez449, ex8_449]; exact hch_1_8
      have hlh_449 : z449.length = 155 := by rw [ez449]; exact hln_1
      have hrh_449 : ∀ j : Nat, j ≠ 8 → z449[j]? = zs[j]? := by rw [ez449]; exact hrq_1
      replace hP : va_P (dC, dI) vwCl [(h0, .inr (13, z449)), (qf4, .inl (cf4, 3008, .inl g4_449)), (qf5, .inl (cf5, 3002, .inl g5_449)), (qf6, .inl (cf6, 3002, .inl g6_449)), (qf7, .inl (cf7, 3002, .inl g7_449)), (qf2, .inl (cf2, 3000, .inl f2))] H := by rw [ez449, eg4_449, eg5_449, eg6_449, eg7_449]; exact hP
      replace hD : va_D A [(h0, .inr (13, z449)), (qf4, .inl (cf4, 3008, .inl g4_449)), (qf5, .inl (cf5, 3002, .inl g5_449)), (qf6, .inl (cf6, 3002, .inl g6_449)), (qf7, .inl (cf7, 3002, .inl g7_449)), (qf2, .inl (cf2, 3000, .inl f2))] := by rw [ez449, eg4_449, eg5_449, eg6_449, eg7_449]; exact hD
      clear hn_449 ez449 el2_449 eg4_449 eg5_449 eg6_449 eg7_449 ex8_449
      try clear hlo
      try clear hH
      revert hsp
      revert hP
      revert hD
      revert hS
      revert hl
      revert hrh_449
      revert hlh_449
      revert hfh_449_8
      revert hfh_449_7
      revert hfh_449_6
      revert hfh_449_5
      revert hfh_449_4
      revert hfh_449_3
      revert hfh_449_2
      revert x8_449
      revert g7_449
      revert g6_449
      revert g5_449
      revert g4_449
      revert l2_449
      revert z449
      revert ls
      revert locs
      revert H
      induction n_449 with
      | zero => intro H locs ls z449 l2_449 g4_449 g5_449 g6_449 g7_449 x8_449 hfh_449_2 hfh_449_3 hfh_449_4 hfh_449_5 hfh_449_6 hfh_449_7 hfh_449_8 hlh_449 hrh_449 hl hS hD hP hsp; unfold lp_vm_tokenize_449 at hsp; cases hsp
      | succ n_449 ih_449 =>
        intro H locs ls z449 l2_449 g4_449 g5_449 g6_449 g7_449 x8_449 hfh_449_2 hfh_449_3 hfh_449_4 hfh_449_5 hfh_449_6 hfh_449_7 hfh_449_8 hlh_449 hrh_449 hl hS hD hP hsp
        unfold lp_vm_tokenize_449 at hsp
        try dsimp only at hsp
        refine lv_iload_n hx hb dX13_tokenize_449 rfl (lv_at hl 0 rfl) ?_
        refine lv_aload_n hx hb dX13_tokenize_450 rfl (lv_at hl 1 rfl) ?_
        refine va_get (D := (dC, dI)) (ci := 13) (v := .int x8_449) (C := RX13) (T := TX13) (N := 155) hx hb hts uV_h9_X13 hown hK hP 0 rfl rfl 8 (by decide) (hts (.fieldLink RX13 338 "ClassMillModel" "tokens" "I") mw_h9_31) (fun _ h9 => h9) hfh_449_8 dX13_tokenize_451 ?_
        refine lv_iconst (v := 4) hx hb dX13_tokenize_454 (by decide) ?_
        refine lv_iadd hx hb dX13_tokenize_455 ?_
        refine lv_icmp_ge (tgt := 472) hx hb dX13_tokenize_456 (by decide) (fun c_4 => ?_) (fun c_4 => ?_)
        · rw [if_pos c_4] at hsp
          have hr0 := Option.some.inj hsp
          clear hsp
          obtain ⟨hq0, hr1⟩ := Prod.mk.inj hr0
          clear hr0
          obtain ⟨hq1, hr2⟩ := Prod.mk.inj hr1
          clear hr1
          obtain ⟨hq2, hr3⟩ := Prod.mk.inj hr2
          clear hr2
          obtain ⟨hq3, hr4⟩ := Prod.mk.inj hr3
          clear hr3
          subst hq0
          subst hq1
          subst hq2
          subst hq3
          subst hr4
          have hP9 := hP.sub (ws' := [(h0, .inr (13, z449)), (qf4, .inl (cf4, 3008, .inl g4_449)), (qf5, .inl (cf5, 3002, .inl g5_449)), (qf6, .inl (cf6, 3002, .inl g6_449)), (qf7, .inl (cf7, 3002, .inl g7_449)), (qf2, .inl (cf2, 3000, .inl f2))]) [0, 1, 2, 3, 4, 5] rfl
          have hD9 := hD.sub (ws' := [(h0, .inr (13, z449)), (qf4, .inl (cf4, 3008, .inl g4_449)), (qf5, .inl (cf5, 3002, .inl g5_449)), (qf6, .inl (cf6, 3002, .inl g6_449)), (qf7, .inl (cf7, 3002, .inl g7_449)), (qf2, .inl (cf2, 3000, .inl f2))]) [0, 1, 2, 3, 4, 5] (by decide) rfl
          have hK9 := hK.sub (tys' := [(cf4, .int), (cf5, .int), (cf6, .int), (cf7, .int), (cf2, .int)]) [0, 1, 2, 3, 4] rfl
          exact W.vret hx hb hr (fun t ht hW => ⟨⟨(z449), rfl, ⟨trivial, hlh_449, hrh_449, hfh_449_8⟩, by rw [ht]; exact hP9, va_K.moved hW.alike hK9, hD9⟩, hS.F ht⟩) hS.2.2 dX13_tokenize_472
        · rw [if_neg c_4] at hsp
          refine lv_aload_n hx hb dX13_tokenize_459 rfl (lv_at hl 1 rfl) ?_
          refine va_get (D := (dC, dI)) (ci := 13) (v := .ref qf4) (C := RX13) (T := TX13) (N := 155) hx hb hts uV_h9_X13 hown hK hP 0 rfl rfl 4 (by decide) (hts (.fieldLink RX13 16 "ClassMillModel" "kind" "[I") mw_h9_32) (fun _ h9 => h9) hfh_449_4 dX13_tokenize_460 ?_
          refine lv_iload_n hx hb dX13_tokenize_463 rfl (lv_at hl 0 rfl) ?_
          refine lv_iconst (v := 5) hx hb dX13_tokenize_464 (by decide) ?_
          obtain ⟨hi_5, hsp⟩ := ox_in hsp
          refine va_iast hx hb hK hP hD hS 1 0 rfl rfl (i := l2_449) (x := 5) hi_5 dX13_tokenize_465 ?_
          clear hP hD hS
          intro H locs hP hD hS
          replace hP : va_P (dC, dI) vwCl [(h0, .inr (13, z449)), (qf4, .inl (cf4, 3008, .inl (upd g4_449 (l2_449 : Int32).toNatClampNeg 5))), (qf5, .inl (cf5, 3002, .inl g5_449)), (qf6, .inl (cf6, 3002, .inl g6_449)), (qf7, .inl (cf7, 3002, .inl g7_449)), (qf2, .inl (cf2, 3000, .inl f2))] H := hP
          replace hD : va_D A [(h0, .inr (13, z449)), (qf4, .inl (cf4, 3008, .inl (upd g4_449 (l2_449 : Int32).toNatClampNeg 5))), (qf5, .inl (cf5, 3002, .inl g5_449)), (qf6, .inl (cf6, 3002, .inl g6_449)), (qf7, .inl (cf7, 3002, .inl g7_449)), (qf2, .inl (cf2, 3000, .inl f2))] := hD
          refine lv_iinc (v := (l2_449 + 1)) (lv' := [(2, .int (l2_449 + 1)), (0, .ref h0)]) hx hb dX13_tokenize_466 hl (k := 0) rfl rfl (by decide) rfl (fun ls hl => ?_)
          refine lv_goto (tgt := 449) hx hb dX13_tokenize_469 (by decide) ?_
          exact ih_449 H locs ls z449 (l2_449 + 1) (upd g4_449 (l2_449 : Int32).toNatClampNeg 5) g5_449 g6_449 g7_449 x8_449 (hfh_449_2) (hfh_449_3) (hfh_449_4) (hfh_449_5) (hfh_449_6) (hfh_449_7) (hfh_449_8) hlh_449 hrh_449 (lv_sub hl [0, 1] rfl) hS (hD.sub (ws' := [(h0, .inr (13, z449)), (qf4, .inl (cf4, 3008, .inl (upd g4_449 (l2_449 : Int32).toNatClampNeg 5))), (qf5, .inl (cf5, 3002, .inl g5_449)), (qf6, .inl (cf6, 3002, .inl g6_449)), (qf7, .inl (cf7, 3002, .inl g7_449)), (qf2, .inl (cf2, 3000, .inl f2))]) [0, 1, 2, 3, 4, 5] (by decide) rfl) (hP.sub (ws' := [(h0, .inr (13, z449)), (qf4, .inl (cf4, 3008, .inl (upd g4_449 (l2_449 : Int32).toNatClampNeg 5))), (qf5, .inl (cf5, 3002, .inl g5_449)), (qf6, .inl (cf6, 3002, .inl g6_449)), (qf7, .inl (cf7, 3002, .inl g7_449)), (qf2, .inl (cf2, 3000, .inl f2))]) [0, 1, 2, 3, 4, 5] rfl) hsp
    · rw [if_neg c_3] at hsp
      refine lv_aload_n hx hb dX13_tokenize_15 rfl (lv_at hl 1 rfl) ?_
      refine va_get (D := (dC, dI)) (ci := 13) (v := .ref qf2) (C := RX13) (T := TX13) (N := 155) hx hb hts uV_h9_X13 hown hK hP 0 rfl rfl 2 (by decide) (hts (.fieldLink RX13 13 "ClassMillModel" "text" "[I") mw_h9_7) (fun _ h9 => h9) hfh_7_2 dX13_tokenize_16 ?_
      refine lv_iload_n hx hb dX13_tokenize_19 rfl (lv_at hl 0 rfl) ?_
      obtain ⟨hi_6, hsp⟩ := ox_in hsp
      refine va_iald hx hb hK hP 5 4 rfl rfl (i := l1_7) hi_6 dX13_tokenize_20 ?_
      refine lv_istore_n (lv' := [(2, .int (f2 (l1_7 : Int32).toNatClampNeg)), (1, .int l1_7), (0, .ref h0)]) hx hb dX13_tokenize_21 rfl hl (by decide) rfl (fun ls hl => ?_)
      refine lv_iload_n hx hb dX13_tokenize_22 rfl (lv_at hl 0 rfl) ?_
      refine lv_bipush (v := 32) hx hb dX13_tokenize_23 (by decide) ?_
      refine lv_icmp_eq (tgt := 34) hx hb dX13_tokenize_25 (by decide) (fun c_7 => ?_) (fun c_7 => ?_)
      · rw [if_pos c_7] at hsp
        refine lv_iinc (v := (l1_7 + 1)) (lv' := [(1, .int (l1_7 + 1)), (2, .int (f2 (l1_7 : Int32).toNatClampNeg)), (0, .ref h0)]) hx hb dX13_tokenize_34 hl (k := 1) rfl rfl (by decide) rfl (fun ls hl => ?_)
        refine lv_goto (tgt := 7) hx hb dX13_tokenize_37 (by decide) ?_
        exact ih_7 H locs ls z7 (l1_7 + 1) g4_7 g5_7 g6_7 g7_7 x8_7 (hfh_7_2) (hfh_7_3) (hfh_7_4) (hfh_7_5) (hfh_7_6) (hfh_7_7) (hfh_7_8) hlh_7 hrh_7 (lv_sub hl [0, 2] rfl) hS (hD.sub (ws' := [(h0, .inr (13, z7)), (qf4, .inl (cf4, 3008, .inl g4_7)), (qf5, .inl (cf5, 3002, .inl g5_7)), (qf6, .inl (cf6, 3002, .inl g6_7)), (qf7, .inl (cf7, 3002, .inl g7_7)), (qf2, .inl (cf2, 3000, .inl f2))]) [0, 1, 2, 3, 4, 5] (by decide) rfl) (hP.sub (ws' := [(h0, .inr (13, z7)), (qf4, .inl (cf4, 3008, .inl g4_7)), (qf5, .inl (cf5, 3002, .inl g5_7)), (qf6, .inl (cf6, 3002, .inl g6_7)), (qf7, .inl (cf7, 3002, .inl g7_7)), (qf2, .inl (cf2, 3000, .inl f2))]) [0, 1, 2, 3, 4, 5] rfl) hsp
      · rw [if_neg c_7] at hsp
        refine lv_iload_n hx hb dX13_tokenize_28 rfl (lv_at hl 0 rfl) ?_
        refine lv_bipush (v := 10) hx hb dX13_tokenize_29 (by decide) ?_
        refine lv_icmp_ne (tgt := 40) hx hb dX13_tokenize_31 (by decide) (fun c_8 => ?_) (fun c_8 => ?_)
        · rw [if_neg c_8] at hsp
          refine lv_iload_n hx hb dX13_tokenize_40 rfl (lv_at hl 0 rfl) ?_
          refine lv_bipush (v := 47) hx hb dX13_tokenize_41 (by decide) ?_
          refine lv_icmp_ne (tgt := 83) hx hb dX13_tokenize_43 (by decide) (fun c_9 => ?_) (fun c_9 => ?_)
          · rw [if_neg c_9] at hsp
            exact hj_83 (H, locs, ls, z7, l1_7, (f2 (l1_7 : Int32).toNatClampNeg), g4_7, g5_7, g6_7, g7_7, x8_7) ⟨lv_sub hl [2, 1, 0] rfl, hS, hD.sub (ws' := [(h0, .inr (13, z7)), (qf4, .inl (cf4, 3008, .inl g4_7)), (qf5, .inl (cf5, 3002, .inl g5_7)), (qf6, .inl (cf6, 3002, .inl g6_7)), (qf7, .inl (cf7, 3002, .inl g7_7)), (qf2, .inl (cf2, 3000, .inl f2))]) [0, 1, 2, 3, 4, 5] (by decide) rfl, hP.sub (ws' := [(h0, .inr (13, z7)), (qf4, .inl (cf4, 3008, .inl g4_7)), (qf5, .inl (cf5, 3002, .inl g5_7)), (qf6, .inl (cf6, 3002, .inl g6_7)), (qf7, .inl (cf7, 3002, .inl g7_7)), (qf2, .inl (cf2, 3000, .inl f2))]) [0, 1, 2, 3, 4, 5] rfl, hfh_7_2, hfh_7_3, hfh_7_4, hfh_7_5, hfh_7_6, hfh_7_7, hfh_7_8, hlh_7, hrh_7, hsp⟩
          · rw [if_pos c_9] at hsp
            refine lv_aload_n hx hb dX13_tokenize_46 rfl (lv_at hl 2 rfl) ?_
            refine lv_iload_n hx hb dX13_tokenize_47 rfl (lv_at hl 1 rfl) ?_
            refine lv_iconst (v := 1) hx hb dX13_tokenize_48 (by decide) ?_
            refine lv_iadd hx hb dX13_tokenize_49 ?_
            obtain ⟨u2_0, hu_2, hsp⟩ := ox_bind hsp
            try dsimp only at hsp
            have hPc := hP.sub (ws' := [(h0, .inr (13, z7)), (qf2, .inl (cf2, 3000, .inl f2))]) [0, 5] rfl
            have hDc := hD.sub (ws' := [(h0, .inr (13, z7)), (qf2, .inl (cf2, 3000, .inl f2))]) [0, 5] (by decide) rfl
            have hKc := hK.sub (tys' := [(cf2, .int)]) [4] rfl
            have hFc := va_free (wc := [(h0, .inr (13, z7)), (qf2, .inl (cf2, 3000, .inl f2))]) hD hS hA [0, 5] rfl
            refine va_calli (va_runV (As := [.int (l1_7 + 1)]) (rest := []) ⟨hx, hb, hml, hown, hts⟩ (tm_at l dC dI H.size h0 z7 ((l1_7 + 1)) qf2 v3 cf2 f2 nf u2_0 hlh_7 hfh_7_2 hfh_7_3 hu_2) (cwV 1 hts gv_h9_2 rfl rfl rfl (by decide +kernel) ⟨Nat.le_of_ble_eq_true rfl, Nat.le_of_ble_eq_true rfl⟩) ⟨fun a U g mk q => by obtain ⟨q0, q1, qP, qK, qD⟩ := q; exact ⟨q0, q1, qP, va_K.moved (u := U) (U := U.calling g mk a) (Vm.Alike.refl U.vm) qK, qD⟩, va_recv hKc hPc (ci := 13) (q0 := 0) rfl rfl, fun U hU hW => ⟨rfl, by rw [hU], by rw [hU]; exact hPc, va_K.moved hW.alike hKc, hDc.weaken (fun _ _ _ _ => trivial)⟩⟩ rfl rfl hl.1 rfl (lv_room (Nat.le_of_ble_eq_true rfl)) dX13_tokenize_50 ⟨Nat.le_of_ble_eq_true rfl, Nat.le_of_ble_eq_true rfl⟩) hS (fun q _ h => hFc q h) hFc ?_
            clear hS
            intro r_10 u t H1 locs ht hvm hw hB hz1 hk1 hS
            obtain ⟨z_2, rfl⟩ : ∃ z, z = u := ⟨_, rfl⟩
            obtain ⟨hP1, hK1, hD1⟩ := hB
            rw [ht] at hP1
            have hK1 := va_K.moved hvm.symm hK1
            try dsimp only at hw
            have hPD := va_join (wr := [(qf4, .inl (cf4, 3008, .inl g4_7)), (qf5, .inl (cf5, 3002, .inl g5_7)), (qf6, .inl (cf6, 3002, .inl g6_7)), (qf7, .inl (cf7, 3002, .inl g7_7))]) (w1 := [(h0, .inr (13, z_2)), (qf2, .inl (cf2, 3000, .inl f2))]) hP hD [0, 5] [1, 2, 3, 4] rfl rfl (by decide) (by decide) hk1 hFc hP1 hD1
            clear hP hD
            obtain ⟨hP, hD⟩ := hPD
            replace hK := (hK.sub (tys' := [(cf4, .int), (cf5, .int), (cf6, .int), (cf7, .int)]) [0, 1, 2, 3] rfl).app hK1
            clear hPc hDc hKc hFc hP1 hK1 hD1 hz1 hk1 ht hvm
            generalize H1 = H at hP hS ⊢
            replace hP : va_P (dC, dI) vwCl [(qf4, .inl (cf4, 3008, .inl g4_7)), (qf5, .inl (cf5, 3002, .inl g5_7)), (qf6, .inl (cf6, 3002, .inl g6_7)), (qf7, .inl (cf7, 3002, .inl g7_7)), (h0, .inr (13, z_2)), (qf2, .inl (cf2, 3000, .inl f2))] H := hP
            replace hD : va_D A [(qf4, .inl (cf4, 3008, .inl g4_7)), (qf5, .inl (cf5, 3002, .inl g5_7)), (qf6, .inl (cf6, 3002, .inl g6_7)), (qf7, .inl (cf7, 3002, .inl g7_7)), (h0, .inr (13, z_2)), (qf2, .inl (cf2, 3000, .inl f2))] := hD
            replace hK : va_K (dC, dI) vwCl [(cf4, .int), (cf5, .int), (cf6, .int), (cf7, .int), (cf2, .int)] s := hK
            obtain ⟨hwa_2, hln_2, hre_2⟩ := hw
            have hfk_2_2 : z_2[2]? = some (.ref qf2) := (hre_2 2 ).trans (hfh_7_2)
            have hfk_2_3 : z_2[3]? = some (.int v3) := (hre_2 3 ).trans (hfh_7_3)
            have hfk_2_4 : z_2[4]? = some (.ref qf4) := (hre_2 4 ).trans (hfh_7_4)
            have hfk_2_5 : z_2[5]? = some (.ref qf5) := (hre_2 5 ).trans (hfh_7_5)
            have hfk_2_6 : z_2[6]? = some (.ref qf6) := (hre_2 6 ).trans (hfh_7_6)
            have hfk_2_7 : z_2[7]? = some (.ref qf7) := (hre_2 7 ).trans (hfh_7_7)
            have hfk_2_8 : z_2[8]? = some (.int x8_7) := (hre_2 8 ).trans (hfh_7_8)
            have hrq_2 : ∀ j : Nat, j ≠ 8 → z_2[j]? = zs[j]? := fun j g8 => (hre_2 j ).trans (hrh_7 j g8)
            obtain rfl := hwa_2
            refine lv_bipush (v := 47) hx hb dX13_tokenize_53 (by decide) ?_
            refine lv_icmp_ne (tgt := 83) hx hb dX13_tokenize_55 (by decide) (fun c_11 => ?_) (fun c_11 => ?_)
            · rw [if_neg c_11] at hsp
              exact hj_83 (H, locs, ls, z_2, l1_7, (f2 (l1_7 : Int32).toNatClampNeg), g4_7, g5_7, g6_7, g7_7, x8_7) ⟨lv_sub hl [2, 1, 0] rfl, hS, hD.sub (ws' := [(h0, .inr (13, z_2)), (qf4, .inl (cf4, 3008, .inl g4_7)), (qf5, .inl (cf5, 3002, .inl g5_7)), (qf6, .inl (cf6, 3002, .inl g6_7)), (qf7, .inl (cf7, 3002, .inl g7_7)), (qf2, .inl (cf2, 3000, .inl f2))]) [4, 0, 1, 2, 3, 5] (by decide) rfl, hP.sub (ws' := [(h0, .inr (13, z_2)), (qf4, .inl (cf4, 3008, .inl g4_7)), (qf5, .inl (cf5, 3002, .inl g5_7)), (qf6, .inl (cf6, 3002, .inl g6_7)), (qf7, .inl (cf7, 3002, .inl g7_7)), (qf2, .inl (cf2, 3000, .inl f2))]) [4, 0, 1, 2, 3, 5] rfl, hfk_2_2, hfk_2_3, hfk_2_4, hfk_2_5, hfk_2_6, hfk_2_7, hfk_2_8, hln_2, hrq_2, hsp⟩
            · rw [if_pos c_11] at hsp
              replace hl : lv_has ls 7 [(1, .int l1_7), (0, .ref h0)] := lv_sub hl [1, 2] rfl
              replace hP := hP.sub (ws' := [(h0, .inr (13, z_2)), (qf4, .inl (cf4, 3008, .inl g4_7)), (qf5, .inl (cf5, 3002, .inl g5_7)), (qf6, .inl (cf6, 3002, .inl g6_7)), (qf7, .inl (cf7, 3002, .inl g7_7)), (qf2, .inl (cf2, 3000, .inl f2))]) [4, 0, 1, 2, 3, 5] rfl
              replace hD := hD.sub (ws' := [(h0, .inr (13, z_2)), (qf4, .inl (cf4, 3008, .inl g4_7)), (qf5, .inl (cf5, 3002, .inl g5_7)), (qf6, .inl (cf6, 3002, .inl g6_7)), (qf7, .inl (cf7, 3002, .inl g7_7)), (qf2, .inl (cf2, 3000, .inl f2))]) [4, 0, 1, 2, 3, 5] (by decide) rfl
              replace hK := hK.sub (tys' := [(cf4, .int), (cf5, .int), (cf6, .int), (cf7, .int), (cf2, .int)]) [0, 1, 2, 3, 4] rfl
              obtain ⟨n_58, hn_58⟩ : ∃ z : Nat, z = nf := ⟨_, rfl⟩
              obtain ⟨l1_58, el1_58⟩ : ∃ z : Int32, z = l1_7 := ⟨_, rfl⟩
              obtain ⟨g4_58, eg4_58⟩ : ∃ z : Nat → Int32, z = g4_7 := ⟨_, rfl⟩
              obtain ⟨g5_58, eg5_58⟩ : ∃ z : Nat → Int32, z = g5_7 := ⟨_, rfl⟩
              obtain ⟨g6_58, eg6_58⟩ : ∃ z : Nat → Int32, z = g6_7 := ⟨_, rfl⟩
              obtain ⟨g7_58, eg7_58⟩ : ∃ z : Nat → Int32, z = g7_7 := ⟨_, rfl⟩
              obtain ⟨x8_58, ex8_58⟩ : ∃ z : Int32, z = x8_7 := ⟨_, rfl⟩
              replace hsp : lp_vm_tokenize_58 nf n_58 v3 f4 f5 f6 f7 f2 nS352 fS352 (lp_vm_tokenize_7 nf n_7 v3 f4 f5 f6 f7 f2 nS352 fS352) l1_58 g4_58 g5_58 g6_58 g7_58 x8_58 = some (o4, o5, o6, o7, w8) := by rw [hn_58, el1_58, eg4_58, eg5_58, eg6_58, eg7_58, ex8_58]; exact hsp
              replace hl : lv_has ls 7 [(1, .int l1_58), (0, .ref h0)] := by rw [el1_58]; exact hl
              obtain ⟨z58, ez58⟩ : ∃ z : List Value, z = z_2 := ⟨_, rfl⟩
              have hfh_58_2 : z58[2]? = some (.ref qf2) := by rw [ez58]; exact hfk_2_2
              have hfh_58_3 : z58[3]? = some (.int v3) := by rw [ez58]; exact hfk_2_3
              have hfh_58_4 : z58[4]? = some (.ref qf4) := by rw [ez58]; exact hfk_2_4
              have hfh_58_5 : z58[5]? = some (.ref qf5) := by rw [ez58]; exact hfk_2_5
              have hfh_58_6 : z58[6]? = some (.ref qf6) := by rw [ez58]; exact hfk_2_6
              have hfh_58_7 : z58[7]? = some (.ref qf7) := by rw [ez58]; exact hfk_2_7
              have hfh_58_8 : z58[8]? = some (.int x8_58) := by rw [ez58, ex8_58]; exact hfk_2_8
              have hlh_58 : z58.length = 155 := by rw [ez58]; exact hln_2
              have hrh_58 : ∀ j : Nat, j ≠ 8 → z58[j]? = zs[j]? := by rw [ez58]; exact hrq_2
              replace hP : va_P (dC, dI) vwCl [(h0, .inr (13, z58)), (qf4, .inl (cf4, 3008, .inl g4_58)), (qf5, .inl (cf5, 3002, .inl g5_58)), (qf6, .inl (cf6, 3002, .inl g6_58)), (qf7, .inl (cf7, 3002, .inl g7_58)), (qf2, .inl (cf2, 3000, .inl f2))] H := by rw [ez58, eg4_58, eg5_58, eg6_58, eg7_58]; exact hP
              replace hD : va_D A [(h0, .inr (13, z58)), (qf4, .inl (cf4, 3008, .inl g4_58)), (qf5, .inl (cf5, 3002, .inl g5_58)), (qf6, .inl (cf6, 3002, .inl g6_58)), (qf7, .inl (cf7, 3002, .inl g7_58)), (qf2, .inl (cf2, 3000, .inl f2))] := by rw [ez58, eg4_58, eg5_58, eg6_58, eg7_58]; exact hD
              clear hn_58 ez58 el1_58 eg4_58 eg5_58 eg6_58 eg7_58 ex8_58
              try clear hlo
              try clear hH
              revert hsp
              revert hP
              revert hD
              revert hS
              revert hl
              revert hrh_58
              revert hlh_58
              revert hfh_58_8
              revert hfh_58_7
              revert hfh_58_6
              revert hfh_58_5
              revert hfh_58_4
              revert hfh_58_3
              revert hfh_58_2
              revert x8_58
              revert g7_58
              revert g6_58
              revert g5_58
              revert g4_58
              revert l1_58
              revert z58
              revert ls
              revert locs
              revert H
              induction n_58 with
              | zero => intro H locs ls z58 l1_58 g4_58 g5_58 g6_58 g7_58 x8_58 hfh_58_2 hfh_58_3 hfh_58_4 hfh_58_5 hfh_58_6 hfh_58_7 hfh_58_8 hlh_58 hrh_58 hl hS hD hP hsp; unfold lp_vm_tokenize_58 at hsp; cases hsp
              | succ n_58 ih_58 =>
                intro H locs ls z58 l1_58 g4_58 g5_58 g6_58 g7_58 x8_58 hfh_58_2 hfh_58_3 hfh_58_4 hfh_58_5 hfh_58_6 hfh_58_7 hfh_58_8 hlh_58 hrh_58 hl hS hD hP hsp
                unfold lp_vm_tokenize_58 at hsp
                try dsimp only at hsp
                refine lv_iload_n hx hb dX13_tokenize_58 rfl (lv_at hl 0 rfl) ?_
                refine lv_aload_n hx hb dX13_tokenize_59 rfl (lv_at hl 1 rfl) ?_
                refine va_get (D := (dC, dI)) (ci := 13) (v := .int v3) (C := RX13) (T := TX13) (N := 155) hx hb hts uV_h9_X13 hown hK hP 0 rfl rfl 3 (by decide) (hts (.fieldLink RX13 325 "ClassMillModel" "size" "I") mw_h9_37) (fun _ h9 => h9) hfh_58_3 dX13_tokenize_60 ?_
                refine lv_icmp_ge (tgt := 7) hx hb dX13_tokenize_63 (by decide) (fun c_12 => ?_) (fun c_12 => ?_)
                · rw [if_pos c_12] at hsp
                  exact ih_7 H locs ls z58 l1_58 g4_58 g5_58 g6_58 g7_58 x8_58 (hfh_58_2) (hfh_58_3) (hfh_58_4) (hfh_58_5) (hfh_58_6) (hfh_58_7) (hfh_58_8) hlh_58 hrh_58 (lv_sub hl [0, 1] rfl) hS (hD.sub (ws' := [(h0, .inr (13, z58)), (qf4, .inl (cf4, 3008, .inl g4_58)), (qf5, .inl (cf5, 3002, .inl g5_58)), (qf6, .inl (cf6, 3002, .inl g6_58)), (qf7, .inl (cf7, 3002, .inl g7_58)), (qf2, .inl (cf2, 3000, .inl f2))]) [0, 1, 2, 3, 4, 5] (by decide) rfl) (hP.sub (ws' := [(h0, .inr (13, z58)), (qf4, .inl (cf4, 3008, .inl g4_58)), (qf5, .inl (cf5, 3002, .inl g5_58)), (qf6, .inl (cf6, 3002, .inl g6_58)), (qf7, .inl (cf7, 3002, .inl g7_58)), (qf2, .inl (cf2, 3000, .inl f2))]) [0, 1, 2, 3, 4, 5] rfl) hsp
                · rw [if_neg c_12] at hsp
                  refine lv_aload_n hx hb dX13_tokenize_66 rfl (lv_at hl 1 rfl) ?_
                  refine va_get (D := (dC, dI)) (ci := 13) (v := .ref qf2) (C := RX13) (T := TX13) (N := 155) hx hb hts uV_h9_X13 hown hK hP 0 rfl rfl 2 (by decide) (hts (.fieldLink RX13 13 "ClassMillModel" "text" "[I") mw_h9_7) (fun _ h9 => h9) hfh_58_2 dX13_tokenize_67 ?_
                  refine lv_iload_n hx hb dX13_tokenize_70 rfl (lv_at hl 0 rfl) ?_
                  obtain ⟨hi_13, hsp⟩ := ox_in hsp
                  refine va_iald hx hb hK hP 5 4 rfl rfl (i := l1_58) hi_13 dX13_tokenize_71 ?_
                  refine lv_bipush (v := 10) hx hb dX13_tokenize_72 (by decide) ?_
                  refine lv_icmp_eq (tgt := 7) hx hb dX13_tokenize_74 (by decide) (fun c_14 => ?_) (fun c_14 => ?_)
                  · rw [if_pos c_14] at hsp
                    exact ih_7 H locs ls z58 l1_58 g4_58 g5_58 g6_58 g7_58 x8_58 (hfh_58_2) (hfh_58_3) (hfh_58_4) (hfh_58_5) (hfh_58_6) (hfh_58_7) (hfh_58_8) hlh_58 hrh_58 (lv_sub hl [0, 1] rfl) hS (hD.sub (ws' := [(h0, .inr (13, z58)), (qf4, .inl (cf4, 3008, .inl g4_58)), (qf5, .inl (cf5, 3002, .inl g5_58)), (qf6, .inl (cf6, 3002, .inl g6_58)), (qf7, .inl (cf7, 3002, .inl g7_58)), (qf2, .inl (cf2, 3000, .inl f2))]) [0, 1, 2, 3, 4, 5] (by decide) rfl) (hP.sub (ws' := [(h0, .inr (13, z58)), (qf4, .inl (cf4, 3008, .inl g4_58)), (qf5, .inl (cf5, 3002, .inl g5_58)), (qf6, .inl (cf6, 3002, .inl g6_58)), (qf7, .inl (cf7, 3002, .inl g7_58)), (qf2, .inl (cf2, 3000, .inl f2))]) [0, 1, 2, 3, 4, 5] rfl) hsp
                  · rw [if_neg c_14] at hsp
                    refine lv_iinc (v := (l1_58 + 1)) (lv' := [(1, .int (l1_58 + 1)), (0, .ref h0)]) hx hb dX13_tokenize_77 hl (k := 0) rfl rfl (by decide) rfl (fun ls hl => ?_)
                    refine lv_goto (tgt := 58) hx hb dX13_tokenize_80 (by decide) ?_
                    exact ih_58 H locs ls z58 (l1_58 + 1) g4_58 g5_58 g6_58 g7_58 x8_58 (hfh_58_2) (hfh_58_3) (hfh_58_4) (hfh_58_5) (hfh_58_6) (hfh_58_7) (hfh_58_8) hlh_58 hrh_58 (lv_sub hl [0, 1] rfl) hS (hD.sub (ws' := [(h0, .inr (13, z58)), (qf4, .inl (cf4, 3008, .inl g4_58)), (qf5, .inl (cf5, 3002, .inl g5_58)), (qf6, .inl (cf6, 3002, .inl g6_58)), (qf7, .inl (cf7, 3002, .inl g7_58)), (qf2, .inl (cf2, 3000, .inl f2))]) [0, 1, 2, 3, 4, 5] (by decide) rfl) (hP.sub (ws' := [(h0, .inr (13, z58)), (qf4, .inl (cf4, 3008, .inl g4_58)), (qf5, .inl (cf5, 3002, .inl g5_58)), (qf6, .inl (cf6, 3002, .inl g6_58)), (qf7, .inl (cf7, 3002, .inl g7_58)), (qf2, .inl (cf2, 3000, .inl f2))]) [0, 1, 2, 3, 4, 5] rfl) hsp
        · rw [if_pos c_8] at hsp
          refine lv_iinc (v := (l1_7 + 1)) (lv' := [(1, .int (l1_7 + 1)), (2, .int (f2 (l1_7 : Int32).toNatClampNeg)), (0, .ref h0)]) hx hb dX13_tokenize_34 hl (k := 1) rfl rfl (by decide) rfl (fun ls hl => ?_)
          refine lv_goto (tgt := 7) hx hb dX13_tokenize_37 (by decide) ?_
          exact ih_7 H locs ls z7 (l1_7 + 1) g4_7 g5_7 g6_7 g7_7 x8_7 (hfh_7_2) (hfh_7_3) (hfh_7_4) (hfh_7_5) (hfh_7_6) (hfh_7_7) (hfh_7_8) hlh_7 hrh_7 (lv_sub hl [0, 2] rfl) hS (hD.sub (ws' := [(h0, .inr (13, z7)), (qf4, .inl (cf4, 3008, .inl g4_7)), (qf5, .inl (cf5, 3002, .inl g5_7)), (qf6, .inl (cf6, 3002, .inl g6_7)), (qf7, .inl (cf7, 3002, .inl g7_7)), (qf2, .inl (cf2, 3000, .inl f2))]) [0, 1, 2, 3, 4, 5] (by decide) rfl) (hP.sub (ws' := [(h0, .inr (13, z7)), (qf4, .inl (cf4, 3008, .inl g4_7)), (qf5, .inl (cf5, 3002, .inl g5_7)), (qf6, .inl (cf6, 3002, .inl g6_7)), (qf7, .inl (cf7, 3002, .inl g7_7)), (qf2, .inl (cf2, 3000, .inl f2))]) [0, 1, 2, 3, 4, 5] rfl) hsp
def sp_vm_add (nf : Nat) (a1 : Int32) (a2 : Int32) (a3 : Int32) (v22 : Int32) (f11 : Nat → Int32) (f12 : Nat → Int32) (f13 : Nat → Int32) (f14 : Nat → Int32) (f15 : Nat → Int32) (f16 : Nat → Int32) (f17 : Nat → Int32) (f18 : Nat → Int32) (f19 : Nat → Int32) (f20 : Nat → Int32) (f21 : Nat → Int32) : Option (Int32 × (Nat → Int32) × (Nat → Int32) × (Nat → Int32) × (Nat → Int32) × (Nat → Int32) × (Nat → Int32) × (Nat → Int32) × (Nat → Int32) × (Nat → Int32) × (Nat → Int32) × (Nat → Int32) × Int32) := (if v22 < 0 then none else if 9000 ≤ (v22 : Int32).toNatClampNeg then none else (if v22 < 0 then none else if 9000 ≤ (v22 : Int32).toNatClampNeg then none else (if v22 < 0 then none else if 9000 ≤ (v22 : Int32).toNatClampNeg then none else (if v22 < 0 then none else if 9000 ≤ (v22 : Int32).toNatClampNeg then none else (if v22 < 0 then none else if 9000 ≤ (v22 : Int32).toNatClampNeg then none else (if v22 < 0 then none else if 9000 ≤ (v22 : Int32).toNatClampNeg then none else (if v22 < 0 then none else if 9000 ≤ (v22 : Int32).toNatClampNeg then none else (if v22 < 0 then none else if 9000 ≤ (v22 : Int32).toNatClampNeg then none else (if v22 < 0 then none else if 9000 ≤ (v22 : Int32).toNatClampNeg then none else (if v22 < 0 then none else if 9000 ≤ (v22 : Int32).toNatClampNeg then none else (if v22 < 0 then none else if 9000 ≤ (v22 : Int32).toNatClampNeg then none else (some (((v22 + 1) - 1), (upd f11 (v22 : Int32).toNatClampNeg a1), (upd f12 (v22 : Int32).toNatClampNeg a2), (upd f13 (v22 : Int32).toNatClampNeg a3), (upd f14 (v22 : Int32).toNatClampNeg (-1)), (upd f15 (v22 : Int32).toNatClampNeg (-1)), (upd f16 (v22 : Int32).toNatClampNeg (-1)), (upd f17 (v22 : Int32).toNatClampNeg (-1)), (upd f18 (v22 : Int32).toNatClampNeg 0), (upd f19 (v22 : Int32).toNatClampNeg 0), (upd f20 (v22 : Int32).toNatClampNeg 0), (upd f21 (v22 : Int32).toNatClampNeg (vp_nar .boolean 0)), (v22 + 1))))))))))))))
