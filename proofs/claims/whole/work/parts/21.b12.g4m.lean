set_option maxHeartbeats 4000000 in
set_option maxRecDepth 100000 in
/-- ClassMillModel.scanFields -/
theorem vm_scanFields (l : Launch) (dC : Nat → ClassId) (dI : Nat → Nat → Nat) (sz : Nat) (h0 : Nat) (zs : (List Value)) (a1 : Int32) (a2 : Int32) (qf102 : Nat) (qf103 : Nat) (qf106 : Nat) (qf107 : Nat) (qf112 : Nat) (v113 : Int32) (v114 : Int32) (v115 : Int32) (cf112 : ClassId) (f112 : (Nat → Int32)) (cf106 : ClassId) (f106 : (Nat → Int32)) (cf107 : ClassId) (f107 : (Nat → Int32)) (cf103 : ClassId) (f103 : (Nat → Int32)) (cf102 : ClassId) (f102 : (Nat → Int32)) (nf : Nat) (r0 : Int32) (o106 : (Nat → Int32)) (o107 : (Nat → Int32)) (w114 : Int32) (hlen : zs.length = 155) (hf102 : zs[102]? = some (.ref qf102)) (hf103 : zs[103]? = some (.ref qf103)) (hf106 : zs[106]? = some (.ref qf106)) (hf107 : zs[107]? = some (.ref qf107)) (hf112 : zs[112]? = some (.ref qf112)) (hf113 : zs[113]? = some (.int v113)) (hf114 : zs[114]? = some (.int v114)) (hf115 : zs[115]? = some (.int v115)) (hsp : sp_vm_scanFields nf a1 a2 v113 v114 v115 f112 f106 f107 f103 f102 = some (r0, o106, o107, w114)) : Met l yX13_scanFields (.code yX13_scanFields cX13_scanFields 5 (some .int) :: VS_h9) ({ frames := 8, cells := 0, slots := 0, locals := 184 }) (va_Pc [.ref h0, .int a1, .int a2] (fun U => U.heap.size = sz ∧ va_P (dC, dI) vwCl [(h0, .inr (13, zs)), (qf112, .inl (cf112, 6000, .inl f112)), (qf106, .inl (cf106, 8, .inl f106)), (qf107, .inl (cf107, 96, .inl f107)), (qf103, .inl (cf103, 8, .inl f103)), (qf102, .inl (cf102, 2048, .inl f102))] U.heap ∧ va_K (dC, dI) vwCl [(cf112, .int), (cf106, .int), (cf107, .int), (cf103, .int), (cf102, .int)] U ∧ va_D (fun _ => True) [(h0, .inr (13, zs)), (qf112, .inl (cf112, 6000, .inl f112)), (qf106, .inl (cf106, 8, .inl f106)), (qf107, .inl (cf107, 96, .inl f107)), (qf103, .inl (cf103, 8, .inl f103)), (qf102, .inl (cf102, 2048, .inl f102))])) (va_Qi (fun (r : Int32) (u : (List Value)) => match u with | (zo1) => r0 = r ∧ zo1.length = 155 ∧ (∀ j : Nat, j ≠ 114 → zo1[j]? = zs[j]?) ∧ zo1[114]? = some (.int w114)) (fun (u : (List Value)) (t : State) => match u with | (zo1) => va_P (dC, dI) vwCl [(h0, .inr (13, zo1)), (qf112, .inl (cf112, 6000, .inl f112)), (qf106, .inl (cf106, 8, .inl o106)), (qf107, .inl (cf107, 96, .inl o107)), (qf103, .inl (cf103, 8, .inl f103)), (qf102, .inl (cf102, 2048, .inl f102))] t.heap ∧ va_K (dC, dI) vwCl [(cf112, .int), (cf106, .int), (cf107, .int), (cf103, .int), (cf102, .int)] t ∧ va_D (va_A [(h0, .inr (13, zs)), (qf112, .inl (cf112, 6000, .inl f112)), (qf106, .inl (cf106, 8, .inl f106)), (qf107, .inl (cf107, 96, .inl f107)), (qf103, .inl (cf103, 8, .inl f103)), (qf102, .inl (cf102, 2048, .inl f102))] sz) [(h0, .inr (13, zo1)), (qf112, .inl (cf112, 6000, .inl f112)), (qf106, .inl (cf106, 8, .inl o106)), (qf107, .inl (cf107, 96, .inl o107)), (qf103, .inl (cf103, 8, .inl f103)), (qf102, .inl (cf102, 2048, .inl f102))]) (va_A [(h0, .inr (13, zs)), (qf112, .inl (cf112, 6000, .inl f112)), (qf106, .inl (cf106, 8, .inl f106)), (qf107, .inl (cf107, 96, .inl f107)), (qf103, .inl (cf103, 8, .inl f103)), (qf102, .inl (cf102, 2048, .inl f102))] sz)) 0 0 (va_A [(h0, .inr (13, zs)), (qf112, .inl (cf112, 6000, .inl f112)), (qf106, .inl (cf106, 8, .inl f106)), (qf107, .inl (cf107, 96, .inl f107)), (qf103, .inl (cf103, 8, .inl f103)), (qf102, .inl (cf102, 2048, .inl f102))] sz) := by
  refine Met.ofW (cc := cX13_scanFields) (maxL := 5) (ret := (some .int)) (by decide) rfl ?_
  intro p e s m args below meth c s₁ B hml hv
  obtain ⟨rfl, hsz, hP, hK, hD0⟩ := hv
  have hx := B.exec
  have hb := B.bytes
  have hr := B.returns
  have hts := atoms_spec (ws := (.code yX13_scanFields cX13_scanFields 5 (some .int) :: VS_h9)) B.pre
  replace hts := fun w (h : w ∈ VS_h9) => hts w (List.mem_cons_of_mem _ h)
  have hown : s.vm.findClass RX13 = some m.cls := findClass_of_methodNamed B.named
  have hlocks := B.notSynchronized
  subst hsz
  have hD := hD0.self (sz := s.heap.size)
  generalize hAe : va_A [(h0, .inr (13, zs)), (qf112, .inl (cf112, 6000, .inl f112)), (qf106, .inl (cf106, 8, .inl f106)), (qf107, .inl (cf107, 96, .inl f107)), (qf103, .inl (cf103, 8, .inl f103)), (qf102, .inl (cf102, 2048, .inl f102))] s.heap.size = A at hD  ⊢
  have hA : ∀ q : Nat, s.heap.size ≤ q → A q := fun q h => by rw [← hAe]; exact Or.inr h
  have hP : va_P (dC, dI) vwCl [(h0, .inr (13, zs)), (qf112, .inl (cf112, 6000, .inl f112)), (qf106, .inl (cf106, 8, .inl f106)), (qf107, .inl (cf107, 96, .inl f107)), (qf103, .inl (cf103, 8, .inl f103)), (qf102, .inl (cf102, 2048, .inl f102))] s.heap := hP
  have hl := lv_entry ([.ref h0, .int a1, .int a2]) (n := 5) (Nat.le_of_ble_eq_true rfl)
  rw [lg_entry_eq]
  generalize (lg_sl ([.ref h0, .int a1, .int a2]) ++ List.replicate (5 - (lg_sl ([.ref h0, .int a1, .int a2])).length) Slot.unset).toArray = ls at hl ⊢
  have hl : lv_has ls 5 [(0, .ref h0), (1, .int a1), (2, .int a2)] := hl
  obtain ⟨H, hH⟩ : ∃ H : Heap, s.heap = H := ⟨_, rfl⟩
  rw [hH] at hP ⊢
  have hS : va_S A s.heap H [] := by rw [← hH]; exact va_S.rf
  obtain ⟨locs, hlo⟩ : ∃ locs : List Loc, locs = [] := ⟨_, rfl⟩
  rw [← hlo] at hS ⊢
  have hrs0 : ∀ j : Nat, j ≠ 114 → zs[j]? = zs[j]? := fun _ _  => rfl
  unfold sp_vm_scanFields at hsp
  refine jn_use (α := Heap × List Loc × Array Slot × List Value × Int32 × Int32 × (Nat → Int32) × (Nat → Int32) × Int32) (fun x9 => x9.1) (fun x9 => x9.2.1) (fun x9 => F0 m 16 x9.2.2.1 []) (fun x9 => match x9 with | (H, locs, ls, z16, l1_16, l2_16, g106_16, g107_16, x114_16) => lv_has ls 5 [(0, .ref h0), (1, .int l1_16), (2, .int l2_16)] ∧ va_S A s.heap H locs ∧ va_D A [(h0, .inr (13, z16)), (qf112, .inl (cf112, 6000, .inl f112)), (qf106, .inl (cf106, 8, .inl g106_16)), (qf107, .inl (cf107, 96, .inl g107_16)), (qf103, .inl (cf103, 8, .inl f103)), (qf102, .inl (cf102, 2048, .inl f102))] ∧ va_P (dC, dI) vwCl [(h0, .inr (13, z16)), (qf112, .inl (cf112, 6000, .inl f112)), (qf106, .inl (cf106, 8, .inl g106_16)), (qf107, .inl (cf107, 96, .inl g107_16)), (qf103, .inl (cf103, 8, .inl f103)), (qf102, .inl (cf102, 2048, .inl f102))] H ∧ z16[102]? = some (.ref qf102) ∧ z16[103]? = some (.ref qf103) ∧ z16[106]? = some (.ref qf106) ∧ z16[107]? = some (.ref qf107) ∧ z16[112]? = some (.ref qf112) ∧ z16[113]? = some (.int v113) ∧ z16[114]? = some (.int x114_16) ∧ z16[115]? = some (.int v115) ∧ z16.length = 155 ∧ (∀ j : Nat, j ≠ 114 → z16[j]? = zs[j]?) ∧ jn_vm_scanFields_16 nf a1 a2 v113 v114 v115 f112 f106 f107 f103 f102 l1_16 l2_16 g106_16 g107_16 x114_16 = some (r0, o106, o107, w114)) ?_ ?_
  · intro x9 hJ9
    obtain ⟨H, locs, ls, z16, l1_16, l2_16, g106_16, g107_16, x114_16⟩ := x9
    obtain ⟨hl, hS, hD, hP, hfh_16_102, hfh_16_103, hfh_16_106, hfh_16_107, hfh_16_112, hfh_16_113, hfh_16_114, hfh_16_115, hlh_16, hrh_16, hsp⟩ := hJ9
    replace hl : lv_has ls 5 [(0, .ref h0), (1, .int l1_16), (2, .int l2_16)] := hl
    replace hS : va_S A s.heap H locs := hS
    replace hD : va_D A [(h0, .inr (13, z16)), (qf112, .inl (cf112, 6000, .inl f112)), (qf106, .inl (cf106, 8, .inl g106_16)), (qf107, .inl (cf107, 96, .inl g107_16)), (qf103, .inl (cf103, 8, .inl f103)), (qf102, .inl (cf102, 2048, .inl f102))] := hD
    replace hP : va_P (dC, dI) vwCl [(h0, .inr (13, z16)), (qf112, .inl (cf112, 6000, .inl f112)), (qf106, .inl (cf106, 8, .inl g106_16)), (qf107, .inl (cf107, 96, .inl g107_16)), (qf103, .inl (cf103, 8, .inl f103)), (qf102, .inl (cf102, 2048, .inl f102))] H := hP
    replace hsp : jn_vm_scanFields_16 nf a1 a2 v113 v114 v115 f112 f106 f107 f103 f102 l1_16 l2_16 g106_16 g107_16 x114_16 = some (r0, o106, o107, w114) := hsp
    show W _ _ _ _ _ _ _ _ _ _ H locs _ _ _ (F0 m 16 ls [])
    unfold jn_vm_scanFields_16 at hsp
    try dsimp only at hsp
    refine lv_aload_n hx hb dX13_scanFields_16 rfl (lv_at hl 0 rfl) ?_
    refine va_get (D := (dC, dI)) (ci := 13) (v := .ref qf106) (C := RX13) (T := TX13) (N := 155) hx hb hts uV_h9_X13 hown hK hP 0 rfl rfl 106 (by decide) (hts (.fieldLink RX13 227 "ClassMillModel" "fieldMany" "[I") mw_h9_256) (fun _ h9 => h9) hfh_16_106 dX13_scanFields_17 ?_
    refine lv_iload_n hx hb dX13_scanFields_20 rfl (lv_at hl 1 rfl) ?_
    refine lv_aload_n hx hb dX13_scanFields_21 rfl (lv_at hl 0 rfl) ?_
    refine va_get (D := (dC, dI)) (ci := 13) (v := .ref qf112) (C := RX13) (T := TX13) (N := 155) hx hb hts uV_h9_X13 hown hK hP 0 rfl rfl 112 (by decide) (hts (.fieldLink RX13 245 "ClassMillModel" "look" "[I") mw_h9_242) (fun _ h9 => h9) hfh_16_112 dX13_scanFields_22 ?_
    refine lv_iload_n hx hb dX13_scanFields_25 rfl (lv_at hl 2 rfl) ?_
    obtain ⟨hi_3, hsp⟩ := ox_in hsp
    refine va_iald hx hb hK hP 1 0 rfl rfl (i := l2_16) hi_3 dX13_scanFields_26 ?_
    obtain ⟨hi_4, hsp⟩ := ox_in hsp
    refine va_iast hx hb hK hP hD hS 2 1 rfl rfl (i := l1_16) (x := (f112 (l2_16 : Int32).toNatClampNeg)) hi_4 dX13_scanFields_27 ?_
    clear hP hD hS
    intro H locs hP hD hS
    replace hP : va_P (dC, dI) vwCl [(h0, .inr (13, z16)), (qf112, .inl (cf112, 6000, .inl f112)), (qf106, .inl (cf106, 8, .inl (upd g106_16 (l1_16 : Int32).toNatClampNeg (f112 (l2_16 : Int32).toNatClampNeg)))), (qf107, .inl (cf107, 96, .inl g107_16)), (qf103, .inl (cf103, 8, .inl f103)), (qf102, .inl (cf102, 2048, .inl f102))] H := hP
    replace hD : va_D A [(h0, .inr (13, z16)), (qf112, .inl (cf112, 6000, .inl f112)), (qf106, .inl (cf106, 8, .inl (upd g106_16 (l1_16 : Int32).toNatClampNeg (f112 (l2_16 : Int32).toNatClampNeg)))), (qf107, .inl (cf107, 96, .inl g107_16)), (qf103, .inl (cf103, 8, .inl f103)), (qf102, .inl (cf102, 2048, .inl f102))] := hD
    refine lv_iload_n hx hb dX13_scanFields_28 rfl (lv_at hl 2 rfl) ?_
    refine lv_iconst (v := 1) hx hb dX13_scanFields_29 (by decide) ?_
    refine lv_iadd hx hb dX13_scanFields_30 ?_
    refine lv_istore_n (lv' := [(3, .int (l2_16 + 1)), (0, .ref h0), (1, .int l1_16), (2, .int l2_16)]) hx hb dX13_scanFields_31 rfl hl (by decide) rfl (fun ls hl => ?_)
    refine lv_iconst (v := 0) hx hb dX13_scanFields_32 (by decide) ?_
    refine lv_istore (lv' := [(4, .int 0), (3, .int (l2_16 + 1)), (0, .ref h0), (1, .int l1_16), (2, .int l2_16)]) hx hb dX13_scanFields_33 hl (by decide) rfl (fun ls hl => ?_)
    replace hl : lv_has ls 5 [(4, .int 0), (3, .int (l2_16 + 1)), (0, .ref h0), (1, .int l1_16), (2, .int l2_16)] := lv_sub hl [0, 1, 2, 3, 4] rfl
    replace hP := hP.sub (ws' := [(h0, .inr (13, z16)), (qf112, .inl (cf112, 6000, .inl f112)), (qf106, .inl (cf106, 8, .inl (upd g106_16 (l1_16 : Int32).toNatClampNeg (f112 (l2_16 : Int32).toNatClampNeg)))), (qf107, .inl (cf107, 96, .inl g107_16)), (qf103, .inl (cf103, 8, .inl f103)), (qf102, .inl (cf102, 2048, .inl f102))]) [0, 1, 2, 3, 4, 5] rfl
    replace hD := hD.sub (ws' := [(h0, .inr (13, z16)), (qf112, .inl (cf112, 6000, .inl f112)), (qf106, .inl (cf106, 8, .inl (upd g106_16 (l1_16 : Int32).toNatClampNeg (f112 (l2_16 : Int32).toNatClampNeg)))), (qf107, .inl (cf107, 96, .inl g107_16)), (qf103, .inl (cf103, 8, .inl f103)), (qf102, .inl (cf102, 2048, .inl f102))]) [0, 1, 2, 3, 4, 5] (by decide) rfl
    replace hK := hK.sub (tys' := [(cf112, .int), (cf106, .int), (cf107, .int), (cf103, .int), (cf102, .int)]) [0, 1, 2, 3, 4] rfl
    obtain ⟨n_35, hn_35⟩ : ∃ z : Nat, z = nf := ⟨_, rfl⟩
    obtain ⟨l1_35, el1_35⟩ : ∃ z : Int32, z = l1_16 := ⟨_, rfl⟩
    obtain ⟨l2_35, el2_35⟩ : ∃ z : Int32, z = l2_16 := ⟨_, rfl⟩
    obtain ⟨l3_35, el3_35⟩ : ∃ z : Int32, z = (l2_16 + 1) := ⟨_, rfl⟩
    obtain ⟨l4_35, el4_35⟩ : ∃ z : Int32, z = 0 := ⟨_, rfl⟩
    obtain ⟨g106_35, eg106_35⟩ : ∃ z : Nat → Int32, z = (upd g106_16 (l1_16 : Int32).toNatClampNeg (f112 (l2_16 : Int32).toNatClampNeg)) := ⟨_, rfl⟩
    obtain ⟨g107_35, eg107_35⟩ : ∃ z : Nat → Int32, z = g107_16 := ⟨_, rfl⟩
    obtain ⟨x114_35, ex114_35⟩ : ∃ z : Int32, z = x114_16 := ⟨_, rfl⟩
    replace hsp : lp_vm_scanFields_35 nf n_35 a1 a2 v113 v114 v115 f112 f106 f107 f103 f102 l1_35 l2_35 l3_35 l4_35 g106_35 g107_35 x114_35 = some (r0, o106, o107, w114) := by rw [hn_35, el1_35, el2_35, el3_35, el4_35, eg106_35, eg107_35, ex114_35]; exact hsp
    replace hl : lv_has ls 5 [(4, .int l4_35), (3, .int l3_35), (0, .ref h0), (1, .int l1_35), (2, .int l2_35)] := by rw [el1_35, el2_35, el3_35, el4_35]; exact hl
    obtain ⟨z35, ez35⟩ : ∃ z : List Value, z = z16 := ⟨_, rfl⟩
    have hfh_35_102 : z35[102]? = some (.ref qf102) := by rw [ez35]; exact hfh_16_102
    have hfh_35_103 : z35[103]? = some (.ref qf103) := by rw [ez35]; exact hfh_16_103
    have hfh_35_106 : z35[106]? = some (.ref qf106) := by rw [ez35]; exact hfh_16_106
    have hfh_35_107 : z35[107]? = some (.ref qf107) := by rw [ez35]; exact hfh_16_107
    have hfh_35_112 : z35[112]? = some (.ref qf112) := by rw [ez35]; exact hfh_16_112
    have hfh_35_113 : z35[113]? = some (.int v113) := by rw [ez35]; exact hfh_16_113
    have hfh_35_114 : z35[114]? = some (.int x114_35) := by rw [ez35, ex114_35]; exact hfh_16_114
    have hfh_35_115 : z35[115]? = some (.int v115) := by rw [ez35]; exact hfh_16_115
    have hlh_35 : z35.length = 155 := by rw [ez35]; exact hlh_16
    have hrh_35 : ∀ j : Nat, j ≠ 114 → z35[j]? = zs[j]? := by rw [ez35]; exact hrh_16
    replace hP : va_P (dC, dI) vwCl [(h0, .inr (13, z35)), (qf112, .inl (cf112, 6000, .inl f112)), (qf106, .inl (cf106, 8, .inl g106_35)), (qf107, .inl (cf107, 96, .inl g107_35)), (qf103, .inl (cf103, 8, .inl f103)), (qf102, .inl (cf102, 2048, .inl f102))] H := by rw [ez35, eg106_35, eg107_35]; exact hP
    replace hD : va_D A [(h0, .inr (13, z35)), (qf112, .inl (cf112, 6000, .inl f112)), (qf106, .inl (cf106, 8, .inl g106_35)), (qf107, .inl (cf107, 96, .inl g107_35)), (qf103, .inl (cf103, 8, .inl f103)), (qf102, .inl (cf102, 2048, .inl f102))] := by rw [ez35, eg106_35, eg107_35]; exact hD
    clear hn_35 ez35 el1_35 el2_35 el3_35 el4_35 eg106_35 eg107_35 ex114_35
    try clear hlo
    try clear hH
    revert hsp
    revert hP
    revert hD
    revert hS
    revert hl
    revert hrh_35
    revert hlh_35
    revert hfh_35_115
    revert hfh_35_114
    revert hfh_35_113
    revert hfh_35_112
    revert hfh_35_107
    revert hfh_35_106
    revert hfh_35_103
    revert hfh_35_102
    revert x114_35
    revert g107_35
    revert g106_35
    revert l4_35
    revert l3_35
    revert l2_35
    revert l1_35
    revert z35
    revert ls
    revert locs
    revert H
    induction n_35 with
    | zero => intro H locs ls z35 l1_35 l2_35 l3_35 l4_35 g106_35 g107_35 x114_35 hfh_35_102 hfh_35_103 hfh_35_106 hfh_35_107 hfh_35_112 hfh_35_113 hfh_35_114 hfh_35_115 hlh_35 hrh_35 hl hS hD hP hsp; unfold lp_vm_scanFields_35 at hsp; cases hsp
    | succ n_35 ih_35 =>
      intro H locs ls z35 l1_35 l2_35 l3_35 l4_35 g106_35 g107_35 x114_35 hfh_35_102 hfh_35_103 hfh_35_106 hfh_35_107 hfh_35_112 hfh_35_113 hfh_35_114 hfh_35_115 hlh_35 hrh_35 hl hS hD hP hsp
      unfold lp_vm_scanFields_35 at hsp
      try dsimp only at hsp
      refine jn_use (α := Heap × List Loc × Array Slot × List Value × Int32 × Int32 × Int32 × Int32 × (Nat → Int32) × (Nat → Int32) × Int32) (fun x9 => x9.1) (fun x9 => x9.2.1) (fun x9 => F0 m 94 x9.2.2.1 []) (fun x9 => match x9 with | (H, locs, ls, z94, l1_94, l2_94, l3_94, l4_94, g106_94, g107_94, x114_94) => lv_has ls 5 [(0, .ref h0), (1, .int l1_94), (2, .int l2_94), (3, .int l3_94), (4, .int l4_94)] ∧ va_S A s.heap H locs ∧ va_D A [(h0, .inr (13, z94)), (qf112, .inl (cf112, 6000, .inl f112)), (qf106, .inl (cf106, 8, .inl g106_94)), (qf107, .inl (cf107, 96, .inl g107_94)), (qf103, .inl (cf103, 8, .inl f103)), (qf102, .inl (cf102, 2048, .inl f102))] ∧ va_P (dC, dI) vwCl [(h0, .inr (13, z94)), (qf112, .inl (cf112, 6000, .inl f112)), (qf106, .inl (cf106, 8, .inl g106_94)), (qf107, .inl (cf107, 96, .inl g107_94)), (qf103, .inl (cf103, 8, .inl f103)), (qf102, .inl (cf102, 2048, .inl f102))] H ∧ z94[102]? = some (.ref qf102) ∧ z94[103]? = some (.ref qf103) ∧ z94[106]? = some (.ref qf106) ∧ z94[107]? = some (.ref qf107) ∧ z94[112]? = some (.ref qf112) ∧ z94[113]? = some (.int v113) ∧ z94[114]? = some (.int x114_94) ∧ z94[115]? = some (.int v115) ∧ z94.length = 155 ∧ (∀ j : Nat, j ≠ 114 → z94[j]? = zs[j]?) ∧ jn_vm_scanFields_94 nf a1 a2 v113 v114 v115 f112 f106 f107 f103 f102 (lp_vm_scanFields_35 nf n_35 a1 a2 v113 v114 v115 f112 f106 f107 f103 f102) l1_94 l2_94 l3_94 l4_94 g106_94 g107_94 x114_94 = some (r0, o106, o107, w114)) ?_ ?_
      · intro x9 hJ9
        obtain ⟨H, locs, ls, z94, l1_94, l2_94, l3_94, l4_94, g106_94, g107_94, x114_94⟩ := x9
        obtain ⟨hl, hS, hD, hP, hfh_94_102, hfh_94_103, hfh_94_106, hfh_94_107, hfh_94_112, hfh_94_113, hfh_94_114, hfh_94_115, hlh_94, hrh_94, hsp⟩ := hJ9
        replace hl : lv_has ls 5 [(0, .ref h0), (1, .int l1_94), (2, .int l2_94), (3, .int l3_94), (4, .int l4_94)] := hl
        replace hS : va_S A s.heap H locs := hS
        replace hD : va_D A [(h0, .inr (13, z94)), (qf112, .inl (cf112, 6000, .inl f112)), (qf106, .inl (cf106, 8, .inl g106_94)), (qf107, .inl (cf107, 96, .inl g107_94)), (qf103, .inl (cf103, 8, .inl f103)), (qf102, .inl (cf102, 2048, .inl f102))] := hD
        replace hP : va_P (dC, dI) vwCl [(h0, .inr (13, z94)), (qf112, .inl (cf112, 6000, .inl f112)), (qf106, .inl (cf106, 8, .inl g106_94)), (qf107, .inl (cf107, 96, .inl g107_94)), (qf103, .inl (cf103, 8, .inl f103)), (qf102, .inl (cf102, 2048, .inl f102))] H := hP
        replace hsp : jn_vm_scanFields_94 nf a1 a2 v113 v114 v115 f112 f106 f107 f103 f102 (lp_vm_scanFields_35 nf n_35 a1 a2 v113 v114 v115 f112 f106 f107 f103 f102) l1_94 l2_94 l3_94 l4_94 g106_94 g107_94 x114_94 = some (r0, o106, o107, w114) := hsp
        show W _ _ _ _ _ _ _ _ _ _ H locs _ _ _ (F0 m 94 ls [])
        unfold jn_vm_scanFields_94 at hsp
        try dsimp only at hsp
        refine lv_aload_n hx hb dX13_scanFields_94 rfl (lv_at hl 0 rfl) ?_
        refine lv_iload_n hx hb dX13_scanFields_95 rfl (lv_at hl 3 rfl) ?_
        refine lv_iconst (v := 1) hx hb dX13_scanFields_96 (by decide) ?_
        refine lv_iadd hx hb dX13_scanFields_97 ?_
        obtain ⟨⟨u5_0, u5_1⟩, hu_5, hsp⟩ := ox_bind hsp
        try dsimp only at hsp
        have hPc := hP.sub (ws' := [(h0, .inr (13, z94))]) [0] rfl
        have hDc := hD.sub (ws' := [(h0, .inr (13, z94))]) [0] (by decide) rfl
        have hKc := hK.sub (tys' := []) [] rfl
        have hFc := va_free (wc := [(h0, .inr (13, z94))]) hD hS hA [0] rfl
        refine va_calli (va_runV (As := [.int (l3_94 + 1)]) (rest := []) ⟨hx, hb, hml, hown, hts⟩ (tm_isByte l dC dI H.size h0 z94 ((l3_94 + 1)) v113 x114_94 nf u5_0 u5_1 hlh_94 hfh_94_113 hfh_94_114 hu_5) (cwV 1 hts gv_h9_47 rfl rfl rfl (by decide +kernel) ⟨Nat.le_of_ble_eq_true rfl, Nat.le_of_ble_eq_true rfl⟩) ⟨fun a U g mk q => by obtain ⟨q0, q1, qP, qK, qD⟩ := q; exact ⟨q0, q1, qP, va_K.moved (u := U) (U := U.calling g mk a) (Vm.Alike.refl U.vm) qK, qD⟩, va_recv hKc hPc (ci := 13) (q0 := 0) rfl rfl, fun U hU hW => ⟨rfl, by rw [hU], by rw [hU]; exact hPc, va_K.moved hW.alike hKc, hDc.weaken (fun _ _ _ _ => trivial)⟩⟩ rfl rfl hl.1 rfl (lv_room (Nat.le_of_ble_eq_true rfl)) dX13_scanFields_98 ⟨Nat.le_of_ble_eq_true rfl, Nat.le_of_ble_eq_true rfl⟩) hS (fun q _ h => hFc q h) hFc ?_
        clear hS
        intro r_16 u t H1 locs ht hvm hw hB hz1 hk1 hS
        obtain ⟨z_5, rfl⟩ : ∃ z, z = u := ⟨_, rfl⟩
        obtain ⟨hP1, hK1, hD1⟩ := hB
        rw [ht] at hP1
        have hK1 := va_K.moved hvm.symm hK1
        try dsimp only at hw
        have hPD := va_join (wr := [(qf112, .inl (cf112, 6000, .inl f112)), (qf106, .inl (cf106, 8, .inl g106_94)), (qf107, .inl (cf107, 96, .inl g107_94)), (qf103, .inl (cf103, 8, .inl f103)), (qf102, .inl (cf102, 2048, .inl f102))]) (w1 := [(h0, .inr (13, z_5))]) hP hD [0] [1, 2, 3, 4, 5] rfl rfl (by decide) (by decide) hk1 hFc hP1 hD1
        clear hP hD
        obtain ⟨hP, hD⟩ := hPD
        replace hK := (hK.sub (tys' := [(cf112, .int), (cf106, .int), (cf107, .int), (cf103, .int), (cf102, .int)]) [0, 1, 2, 3, 4] rfl).app hK1
        clear hPc hDc hKc hFc hP1 hK1 hD1 hz1 hk1 ht hvm
        generalize H1 = H at hP hS ⊢
        replace hP : va_P (dC, dI) vwCl [(qf112, .inl (cf112, 6000, .inl f112)), (qf106, .inl (cf106, 8, .inl g106_94)), (qf107, .inl (cf107, 96, .inl g107_94)), (qf103, .inl (cf103, 8, .inl f103)), (qf102, .inl (cf102, 2048, .inl f102)), (h0, .inr (13, z_5))] H := hP
        replace hD : va_D A [(qf112, .inl (cf112, 6000, .inl f112)), (qf106, .inl (cf106, 8, .inl g106_94)), (qf107, .inl (cf107, 96, .inl g107_94)), (qf103, .inl (cf103, 8, .inl f103)), (qf102, .inl (cf102, 2048, .inl f102)), (h0, .inr (13, z_5))] := hD
        replace hK : va_K (dC, dI) vwCl [(cf112, .int), (cf106, .int), (cf107, .int), (cf103, .int), (cf102, .int)] s := hK
        obtain ⟨hwa_5, hln_5, hre_5, hch_5_114⟩ := hw
        have hfk_5_102 : z_5[102]? = some (.ref qf102) := (hre_5 102 (by decide)).trans (hfh_94_102)
        have hfk_5_103 : z_5[103]? = some (.ref qf103) := (hre_5 103 (by decide)).trans (hfh_94_103)
        have hfk_5_106 : z_5[106]? = some (.ref qf106) := (hre_5 106 (by decide)).trans (hfh_94_106)
        have hfk_5_107 : z_5[107]? = some (.ref qf107) := (hre_5 107 (by decide)).trans (hfh_94_107)
        have hfk_5_112 : z_5[112]? = some (.ref qf112) := (hre_5 112 (by decide)).trans (hfh_94_112)
        have hfk_5_113 : z_5[113]? = some (.int v113) := (hre_5 113 (by decide)).trans (hfh_94_113)
        have hfk_5_115 : z_5[115]? = some (.int v115) := (hre_5 115 (by decide)).trans (hfh_94_115)
        have hrq_5 : ∀ j : Nat, j ≠ 114 → z_5[j]? = zs[j]? := fun j g114 => (hre_5 j g114).trans (hrh_94 j g114)
        obtain ⟨rfl, hz_5⟩ := hwa_5
        rcases hz_5 with rfl | rfl
        · rw [if_pos rfl] at hsp
          refine lv_if_eq (tgt := 127) hx hb dX13_scanFields_101 (by decide) (fun c_17 => ?_) (fun c_17 => (show False by revert c_17; decide).elim)
          refine lv_iinc (v := (l3_94 + 2)) (lv' := [(3, .int (l3_94 + 2)), (0, .ref h0), (1, .int l1_94), (2, .int l2_94), (4, .int l4_94)]) hx hb dX13_scanFields_127 hl (k := 3) rfl rfl (by decide) rfl (fun ls hl => ?_)
          refine lv_iinc (v := (l4_94 + 1)) (lv' := [(4, .int (l4_94 + 1)), (3, .int (l3_94 + 2)), (0, .ref h0), (1, .int l1_94), (2, .int l2_94)]) hx hb dX13_scanFields_130 hl (k := 4) rfl rfl (by decide) rfl (fun ls hl => ?_)
          refine lv_goto (tgt := 35) hx hb dX13_scanFields_133 (by decide) ?_
          exact ih_35 H locs ls z_5 l1_94 l2_94 (l3_94 + 2) (l4_94 + 1) g106_94 g107_94 u5_1 (hfk_5_102) (hfk_5_103) (hfk_5_106) (hfk_5_107) (hfk_5_112) (hfk_5_113) (hch_5_114) (hfk_5_115) hln_5 hrq_5 (lv_sub hl [0, 1, 2, 3, 4] rfl) hS (hD.sub (ws' := [(h0, .inr (13, z_5)), (qf112, .inl (cf112, 6000, .inl f112)), (qf106, .inl (cf106, 8, .inl g106_94)), (qf107, .inl (cf107, 96, .inl g107_94)), (qf103, .inl (cf103, 8, .inl f103)), (qf102, .inl (cf102, 2048, .inl f102))]) [5, 0, 1, 2, 3, 4] (by decide) rfl) (hP.sub (ws' := [(h0, .inr (13, z_5)), (qf112, .inl (cf112, 6000, .inl f112)), (qf106, .inl (cf106, 8, .inl g106_94)), (qf107, .inl (cf107, 96, .inl g107_94)), (qf103, .inl (cf103, 8, .inl f103)), (qf102, .inl (cf102, 2048, .inl f102))]) [5, 0, 1, 2, 3, 4] rfl) hsp
        · rw [if_neg (by decide)] at hsp
          refine lv_if_eq (tgt := 127) hx hb dX13_scanFields_101 (by decide) (fun c_18 => (show False by revert c_18; decide).elim) (fun c_18 => ?_)
          refine lv_aload_n hx hb dX13_scanFields_104 rfl (lv_at hl 0 rfl) ?_
          refine lv_aload_n hx hb dX13_scanFields_105 rfl (lv_at hl 0 rfl) ?_
          refine va_get (D := (dC, dI)) (ci := 13) (v := .ref qf112) (C := RX13) (T := TX13) (N := 155) hx hb hts uV_h9_X13 hown hK hP 5 rfl rfl 112 (by decide) (hts (.fieldLink RX13 245 "ClassMillModel" "look" "[I") mw_h9_242) (fun _ h9 => h9) hfk_5_112 dX13_scanFields_106 ?_
          refine lv_iload_n hx hb dX13_scanFields_109 rfl (lv_at hl 3 rfl) ?_
          refine lv_iconst (v := 1) hx hb dX13_scanFields_110 (by decide) ?_
          refine lv_iadd hx hb dX13_scanFields_111 ?_
          obtain ⟨hi_19, hsp⟩ := ox_in hsp
          refine va_iald hx hb hK hP 0 0 rfl rfl (i := (l3_94 + 1)) hi_19 dX13_scanFields_112 ?_
          refine lv_iconst (v := 1) hx hb dX13_scanFields_113 (by decide) ?_
          obtain ⟨u6_0, hu_6, hsp⟩ := ox_bind hsp
          try dsimp only at hsp
          have hPc := hP.sub (ws' := [(h0, .inr (13, z_5)), (qf103, .inl (cf103, 8, .inl f103)), (qf102, .inl (cf102, 2048, .inl f102)), (qf112, .inl (cf112, 6000, .inl f112))]) [5, 3, 4, 0] rfl
          have hDc := hD.sub (ws' := [(h0, .inr (13, z_5)), (qf103, .inl (cf103, 8, .inl f103)), (qf102, .inl (cf102, 2048, .inl f102)), (qf112, .inl (cf112, 6000, .inl f112))]) [5, 3, 4, 0] (by decide) rfl
          have hKc := hK.sub (tys' := [(cf103, .int), (cf102, .int), (cf112, .int)]) [3, 4, 0] rfl
          have hFc := va_free (wc := [(h0, .inr (13, z_5)), (qf103, .inl (cf103, 8, .inl f103)), (qf102, .inl (cf102, 2048, .inl f102)), (qf112, .inl (cf112, 6000, .inl f112))]) hD hS hA [5, 3, 4, 0] rfl
          refine va_calli (va_runV (As := [.int (f112 ((l3_94 + 1) : Int32).toNatClampNeg), .int 1]) (rest := []) ⟨hx, hb, hml, hown, hts⟩ (vm_isText l dC dI H.size h0 z_5 ((f112 ((l3_94 + 1) : Int32).toNatClampNeg)) 1 qf102 qf103 qf112 v115 cf103 f103 cf102 f102 cf112 f112 nf u6_0 hln_5 hfk_5_102 hfk_5_103 hfk_5_112 hfk_5_115 hu_6) (cwV 2 hts gv_h9_49 rfl rfl rfl (by decide +kernel) ⟨Nat.le_of_ble_eq_true rfl, Nat.le_of_ble_eq_true rfl⟩) ⟨fun a U g mk q => by obtain ⟨q0, q1, qP, qK, qD⟩ := q; exact ⟨q0, q1, qP, va_K.moved (u := U) (U := U.calling g mk a) (Vm.Alike.refl U.vm) qK, qD⟩, va_recv hKc hPc (ci := 13) (q0 := 0) rfl rfl, fun U hU hW => ⟨rfl, by rw [hU], by rw [hU]; exact hPc, va_K.moved hW.alike hKc, hDc.weaken (fun _ _ _ _ => trivial)⟩⟩ rfl rfl hl.1 rfl (lv_room (Nat.le_of_ble_eq_true rfl)) dX13_scanFields_114 ⟨Nat.le_of_ble_eq_true rfl, Nat.le_of_ble_eq_true rfl⟩) hS (fun q _ h => hFc q h) hFc ?_
          clear hS
          intro r_20 u t H1 locs ht hvm hw hB hz1 hk1 hS
          obtain ⟨z_6, rfl⟩ : ∃ z, z = u := ⟨_, rfl⟩
          obtain ⟨hP1, hK1, hD1⟩ := hB
          rw [ht] at hP1
          have hK1 := va_K.moved hvm.symm hK1
          try dsimp only at hw
          have hPD := va_join (wr := [(qf106, .inl (cf106, 8, .inl g106_94)), (qf107, .inl (cf107, 96, .inl g107_94))]) (w1 := [(h0, .inr (13, z_6)), (qf103, .inl (cf103, 8, .inl f103)), (qf102, .inl (cf102, 2048, .inl f102)), (qf112, .inl (cf112, 6000, .inl f112))]) hP hD [5, 3, 4, 0] [1, 2] rfl rfl (by decide) (by decide) hk1 hFc hP1 hD1
          clear hP hD
          obtain ⟨hP, hD⟩ := hPD
          replace hK := (hK.sub (tys' := [(cf106, .int), (cf107, .int)]) [1, 2] rfl).app hK1
          clear hPc hDc hKc hFc hP1 hK1 hD1 hz1 hk1 ht hvm
          generalize H1 = H at hP hS ⊢
          replace hP : va_P (dC, dI) vwCl [(qf106, .inl (cf106, 8, .inl g106_94)), (qf107, .inl (cf107, 96, .inl g107_94)), (h0, .inr (13, z_6)), (qf103, .inl (cf103, 8, .inl f103)), (qf102, .inl (cf102, 2048, .inl f102)), (qf112, .inl (cf112, 6000, .inl f112))] H := hP
          replace hD : va_D A [(qf106, .inl (cf106, 8, .inl g106_94)), (qf107, .inl (cf107, 96, .inl g107_94)), (h0, .inr (13, z_6)), (qf103, .inl (cf103, 8, .inl f103)), (qf102, .inl (cf102, 2048, .inl f102)), (qf112, .inl (cf112, 6000, .inl f112))] := hD
          replace hK : va_K (dC, dI) vwCl [(cf106, .int), (cf107, .int), (cf103, .int), (cf102, .int), (cf112, .int)] s := hK
          obtain ⟨hwa_6, hln_6, hre_6⟩ := hw
          have hfk_6_102 : z_6[102]? = some (.ref qf102) := (hre_6 102 ).trans (hfk_5_102)
          have hfk_6_103 : z_6[103]? = some (.ref qf103) := (hre_6 103 ).trans (hfk_5_103)
          have hfk_6_106 : z_6[106]? = some (.ref qf106) := (hre_6 106 ).trans (hfk_5_106)
          have hfk_6_107 : z_6[107]? = some (.ref qf107) := (hre_6 107 ).trans (hfk_5_107)
          have hfk_6_112 : z_6[112]? = some (.ref qf112) := (hre_6 112 ).trans (hfk_5_112)
          have hfk_6_113 : z_6[113]? = some (.int v113) := (hre_6 113 ).trans (hfk_5_113)
          have hfk_6_114 : z_6[114]? = some (.int u5_1) := (hre_6 114 ).trans (hch_5_114)
          have hfk_6_115 : z_6[115]? = some (.int v115) := (hre_6 115 ).trans (hfk_5_115)
          have hrq_6 : ∀ j : Nat, j ≠ 114 → z_6[j]? = zs[j]? := fun j g114 => (hre_6 j ).trans (hrq_5 j g114)
          obtain ⟨rfl, hz_6⟩ := hwa_6
          rcases hz_6 with rfl | rfl
          · rw [if_pos rfl] at hsp
            refine lv_if_ne (tgt := 127) hx hb dX13_scanFields_117 (by decide) (fun c_21 => (show False by revert c_21; decide).elim) (fun c_21 => ?_)
            refine lv_aload_n hx hb dX13_scanFields_120 rfl (lv_at hl 0 rfl) ?_
            refine lv_iload_n hx hb dX13_scanFields_121 rfl (lv_at hl 3 rfl) ?_
            refine lv_iconst (v := 1) hx hb dX13_scanFields_122 (by decide) ?_
            refine lv_iadd hx hb dX13_scanFields_123 ?_
            obtain ⟨u7_0, hu_7, hsp⟩ := ox_bind hsp
            try dsimp only at hsp
            have hPc := hP.sub (ws' := [(h0, .inr (13, z_6))]) [2] rfl
            have hDc := hD.sub (ws' := [(h0, .inr (13, z_6))]) [2] (by decide) rfl
            have hKc := hK.sub (tys' := []) [] rfl
            have hFc := va_free (wc := [(h0, .inr (13, z_6))]) hD hS hA [2] rfl
            refine va_callv (va_runV (As := [.int (l3_94 + 1)]) (rest := []) ⟨hx, hb, hml, hown, hts⟩ (tm_unfit l dC dI H.size h0 z_6 ((l3_94 + 1)) u5_1 nf u7_0 hln_6 hfk_6_114 hu_7) (cwV 1 hts gv_h9_48 rfl rfl rfl (by decide +kernel) ⟨Nat.le_of_ble_eq_true rfl, Nat.le_of_ble_eq_true rfl⟩) ⟨fun a U g mk q => by obtain ⟨q0, q1, qP, qK, qD⟩ := q; exact ⟨q0, q1, qP, va_K.moved (u := U) (U := U.calling g mk a) (Vm.Alike.refl U.vm) qK, qD⟩, va_recv hKc hPc (ci := 13) (q0 := 0) rfl rfl, fun U hU hW => ⟨rfl, by rw [hU], by rw [hU]; exact hPc, va_K.moved hW.alike hKc, hDc.weaken (fun _ _ _ _ => trivial)⟩⟩ rfl rfl hl.1 rfl (lv_room (Nat.le_of_ble_eq_true rfl)) dX13_scanFields_124 ⟨Nat.le_of_ble_eq_true rfl, Nat.le_of_ble_eq_true rfl⟩) hS (fun q _ h => hFc q h) hFc ?_
            clear hS
            intro u t H1 locs ht hvm hw hB hz1 hk1 hS
            obtain ⟨z_7, rfl⟩ : ∃ z, z = u := ⟨_, rfl⟩
            obtain ⟨hP1, hK1, hD1⟩ := hB
            rw [ht] at hP1
            have hK1 := va_K.moved hvm.symm hK1
            try dsimp only at hw
            have hPD := va_join (wr := [(qf106, .inl (cf106, 8, .inl g106_94)), (qf107, .inl (cf107, 96, .inl g107_94)), (qf103, .inl (cf103, 8, .inl f103)), (qf102, .inl (cf102, 2048, .inl f102)), (qf112, .inl (cf112, 6000, .inl f112))]) (w1 := [(h0, .inr (13, z_7))]) hP hD [2] [0, 1, 3, 4, 5] rfl rfl (by decide) (by decide) hk1 hFc hP1 hD1
            clear hP hD
            obtain ⟨hP, hD⟩ := hPD
            replace hK := (hK.sub (tys' := [(cf106, .int), (cf107, .int), (cf103, .int), (cf102, .int), (cf112, .int)]) [0, 1, 2, 3, 4] rfl).app hK1
            clear hPc hDc hKc hFc hP1 hK1 hD1 hz1 hk1 ht hvm
            generalize H1 = H at hP hS ⊢
            replace hP : va_P (dC, dI) vwCl [(qf106, .inl (cf106, 8, .inl g106_94)), (qf107, .inl (cf107, 96, .inl g107_94)), (qf103, .inl (cf103, 8, .inl f103)), (qf102, .inl (cf102, 2048, .inl f102)), (qf112, .inl (cf112, 6000, .inl f112)), (h0, .inr (13, z_7))] H := hP
            replace hD : va_D A [(qf106, .inl (cf106, 8, .inl g106_94)), (qf107, .inl (cf107, 96, .inl g107_94)), (qf103, .inl (cf103, 8, .inl f103)), (qf102, .inl (cf102, 2048, .inl f102)), (qf112, .inl (cf112, 6000, .inl f112)), (h0, .inr (13, z_7))] := hD
            replace hK : va_K (dC, dI) vwCl [(cf106, .int), (cf107, .int), (cf103, .int), (cf102, .int), (cf112, .int)] s := hK
            obtain ⟨hwa_7, hln_7, hre_7, hch_7_114⟩ := hw
            have hfk_7_102 : z_7[102]? = some (.ref qf102) := (hre_7 102 (by decide)).trans (hfk_6_102)
            have hfk_7_103 : z_7[103]? = some (.ref qf103) := (hre_7 103 (by decide)).trans (hfk_6_103)
            have hfk_7_106 : z_7[106]? = some (.ref qf106) := (hre_7 106 (by decide)).trans (hfk_6_106)
            have hfk_7_107 : z_7[107]? = some (.ref qf107) := (hre_7 107 (by decide)).trans (hfk_6_107)
            have hfk_7_112 : z_7[112]? = some (.ref qf112) := (hre_7 112 (by decide)).trans (hfk_6_112)
            have hfk_7_113 : z_7[113]? = some (.int v113) := (hre_7 113 (by decide)).trans (hfk_6_113)
            have hfk_7_115 : z_7[115]? = some (.int v115) := (hre_7 115 (by decide)).trans (hfk_6_115)
            have hrq_7 : ∀ j : Nat, j ≠ 114 → z_7[j]? = zs[j]? := fun j g114 => (hre_7 j g114).trans (hrq_6 j g114)
            refine lv_iinc (v := (l3_94 + 2)) (lv' := [(3, .int (l3_94 + 2)), (0, .ref h0), (1, .int l1_94), (2, .int l2_94), (4, .int l4_94)]) hx hb dX13_scanFields_127 hl (k := 3) rfl rfl (by decide) rfl (fun ls hl => ?_)
            refine lv_iinc (v := (l4_94 + 1)) (lv' := [(4, .int (l4_94 + 1)), (3, .int (l3_94 + 2)), (0, .ref h0), (1, .int l1_94), (2, .int l2_94)]) hx hb dX13_scanFields_130 hl (k := 4) rfl rfl (by decide) rfl (fun ls hl => ?_)
            refine lv_goto (tgt := 35) hx hb dX13_scanFields_133 (by decide) ?_
            exact ih_35 H locs ls z_7 l1_94 l2_94 (l3_94 + 2) (l4_94 + 1) g106_94 g107_94 u7_0 (hfk_7_102) (hfk_7_103) (hfk_7_106) (hfk_7_107) (hfk_7_112) (hfk_7_113) (hch_7_114) (hfk_7_115) hln_7 hrq_7 (lv_sub hl [0, 1, 2, 3, 4] rfl) hS (hD.sub (ws' := [(h0, .inr (13, z_7)), (qf112, .inl (cf112, 6000, .inl f112)), (qf106, .inl (cf106, 8, .inl g106_94)), (qf107, .inl (cf107, 96, .inl g107_94)), (qf103, .inl (cf103, 8, .inl f103)), (qf102, .inl (cf102, 2048, .inl f102))]) [5, 4, 0, 1, 2, 3] (by decide) rfl) (hP.sub (ws' := [(h0, .inr (13, z_7)), (qf112, .inl (cf112, 6000, .inl f112)), (qf106, .inl (cf106, 8, .inl g106_94)), (qf107, .inl (cf107, 96, .inl g107_94)), (qf103, .inl (cf103, 8, .inl f103)), (qf102, .inl (cf102, 2048, .inl f102))]) [5, 4, 0, 1, 2, 3] rfl) hsp
          · rw [if_neg (by decide)] at hsp
            refine lv_if_ne (tgt := 127) hx hb dX13_scanFields_117 (by decide) (fun c_22 => ?_) (fun c_22 => (show False by revert c_22; decide).elim)
            refine lv_iinc (v := (l3_94 + 2)) (lv' := [(3, .int (l3_94 + 2)), (0, .ref h0), (1, .int l1_94), (2, .int l2_94), (4, .int l4_94)]) hx hb dX13_scanFields_127 hl (k := 3) rfl rfl (by decide) rfl (fun ls hl => ?_)
            refine lv_iinc (v := (l4_94 + 1)) (lv' := [(4, .int (l4_94 + 1)), (3, .int (l3_94 + 2)), (0, .ref h0), (1, .int l1_94), (2, .int l2_94)]) hx hb dX13_scanFields_130 hl (k := 4) rfl rfl (by decide) rfl (fun ls hl => ?_)
            refine lv_goto (tgt := 35) hx hb dX13_scanFields_133 (by decide) ?_
            exact ih_35 H locs ls z_6 l1_94 l2_94 (l3_94 + 2) (l4_94 + 1) g106_94 g107_94 u5_1 (hfk_6_102) (hfk_6_103) (hfk_6_106) (hfk_6_107) (hfk_6_112) (hfk_6_113) (hfk_6_114) (hfk_6_115) hln_6 hrq_6 (lv_sub hl [0, 1, 2, 3, 4] rfl) hS (hD.sub (ws' := [(h0, .inr (13, z_6)), (qf112, .inl (cf112, 6000, .inl f112)), (qf106, .inl (cf106, 8, .inl g106_94)), (qf107, .inl (cf107, 96, .inl g107_94)), (qf103, .inl (cf103, 8, .inl f103)), (qf102, .inl (cf102, 2048, .inl f102))]) [2, 5, 0, 1, 3, 4] (by decide) rfl) (hP.sub (ws' := [(h0, .inr (13, z_6)), (qf112, .inl (cf112, 6000, .inl f112)), (qf106, .inl (cf106, 8, .inl g106_94)), (qf107, .inl (cf107, 96, .inl g107_94)), (qf103, .inl (cf103, 8, .inl f103)), (qf102, .inl (cf102, 2048, .inl f102))]) [2, 5, 0, 1, 3, 4] rfl) hsp
      intro hj_94
      refine lv_iload hx hb dX13_scanFields_35 (lv_at hl 0 rfl) ?_
      refine lv_aload_n hx hb dX13_scanFields_37 rfl (lv_at hl 2 rfl) ?_
      refine va_get (D := (dC, dI)) (ci := 13) (v := .ref qf112) (C := RX13) (T := TX13) (N := 155) hx hb hts uV_h9_X13 hown hK hP 0 rfl rfl 112 (by decide) (hts (.fieldLink RX13 245 "ClassMillModel" "look" "[I") mw_h9_242) (fun _ h9 => h9) hfh_35_112 dX13_scanFields_38 ?_
      refine lv_iload_n hx hb dX13_scanFields_41 rfl (lv_at hl 4 rfl) ?_
      obtain ⟨hi_5, hsp⟩ := ox_in hsp
      refine va_iald hx hb hK hP 1 0 rfl rfl (i := l2_35) hi_5 dX13_scanFields_42 ?_
      refine lv_icmp_ge (tgt := 136) hx hb dX13_scanFields_43 (by decide) (fun c_6 => ?_) (fun c_6 => ?_)
      · rw [if_pos c_6] at hsp
        refine lv_iload_n hx hb dX13_scanFields_136 rfl (lv_at hl 1 rfl) ?_
        have hr0 := Option.some.inj hsp
        clear hsp
        obtain ⟨hq0, hr1⟩ := Prod.mk.inj hr0
        clear hr0
        obtain ⟨hq1, hr2⟩ := Prod.mk.inj hr1
        clear hr1
        obtain ⟨hq2, hr3⟩ := Prod.mk.inj hr2
        clear hr2
        subst hq0
        subst hq1
        subst hq2
        subst hr3
        have hP9 := hP.sub (ws' := [(h0, .inr (13, z35)), (qf112, .inl (cf112, 6000, .inl f112)), (qf106, .inl (cf106, 8, .inl g106_35)), (qf107, .inl (cf107, 96, .inl g107_35)), (qf103, .inl (cf103, 8, .inl f103)), (qf102, .inl (cf102, 2048, .inl f102))]) [0, 1, 2, 3, 4, 5] rfl
        have hD9 := hD.sub (ws' := [(h0, .inr (13, z35)), (qf112, .inl (cf112, 6000, .inl f112)), (qf106, .inl (cf106, 8, .inl g106_35)), (qf107, .inl (cf107, 96, .inl g107_35)), (qf103, .inl (cf103, 8, .inl f103)), (qf102, .inl (cf102, 2048, .inl f102))]) [0, 1, 2, 3, 4, 5] (by decide) rfl
        have hK9 := hK.sub (tys' := [(cf112, .int), (cf106, .int), (cf107, .int), (cf103, .int), (cf102, .int)]) [0, 1, 2, 3, 4] rfl
        exact W.iret hx hb hr (fun t ht hW => ⟨⟨(l3_35), (z35), rfl, ⟨rfl, hlh_35, hrh_35, hfh_35_114⟩, by rw [ht]; exact hP9, va_K.moved hW.alike hK9, hD9⟩, hS.F ht⟩) hS.2.2 dX13_scanFields_137
      · rw [if_neg c_6] at hsp
        refine lv_aload_n hx hb dX13_scanFields_46 rfl (lv_at hl 2 rfl) ?_
        refine va_get (D := (dC, dI)) (ci := 13) (v := .int x114_35) (C := RX13) (T := TX13) (N := 155) hx hb hts uV_h9_X13 hown hK hP 0 rfl rfl 114 (by decide) (hts (.fieldLink RX13 764 "ClassMillModel" "form" "I") mw_h9_251) (fun _ h9 => h9) hfh_35_114 dX13_scanFields_47 ?_
        refine lv_iconst (v := (-1)) hx hb dX13_scanFields_50 (by decide) ?_
        refine lv_icmp_ne (tgt := 136) hx hb dX13_scanFields_51 (by decide) (fun c_7 => ?_) (fun c_7 => ?_)
        · rw [if_neg c_7] at hsp
          refine lv_iload_n hx hb dX13_scanFields_136 rfl (lv_at hl 1 rfl) ?_
          have hr0 := Option.some.inj hsp
          clear hsp
          obtain ⟨hq0, hr1⟩ := Prod.mk.inj hr0
          clear hr0
          obtain ⟨hq1, hr2⟩ := Prod.mk.inj hr1
          clear hr1
          obtain ⟨hq2, hr3⟩ := Prod.mk.inj hr2
          clear hr2
          subst hq0
          subst hq1
          subst hq2
          subst hr3
          have hP9 := hP.sub (ws' := [(h0, .inr (13, z35)), (qf112, .inl (cf112, 6000, .inl f112)), (qf106, .inl (cf106, 8, .inl g106_35)), (qf107, .inl (cf107, 96, .inl g107_35)), (qf103, .inl (cf103, 8, .inl f103)), (qf102, .inl (cf102, 2048, .inl f102))]) [0, 1, 2, 3, 4, 5] rfl
          have hD9 := hD.sub (ws' := [(h0, .inr (13, z35)), (qf112, .inl (cf112, 6000, .inl f112)), (qf106, .inl (cf106, 8, .inl g106_35)), (qf107, .inl (cf107, 96, .inl g107_35)), (qf103, .inl (cf103, 8, .inl f103)), (qf102, .inl (cf102, 2048, .inl f102))]) [0, 1, 2, 3, 4, 5] (by decide) rfl
          have hK9 := hK.sub (tys' := [(cf112, .int), (cf106, .int), (cf107, .int), (cf103, .int), (cf102, .int)]) [0, 1, 2, 3, 4] rfl
          exact W.iret hx hb hr (fun t ht hW => ⟨⟨(l3_35), (z35), rfl, ⟨rfl, hlh_35, hrh_35, hfh_35_114⟩, by rw [ht]; exact hP9, va_K.moved hW.alike hK9, hD9⟩, hS.F ht⟩) hS.2.2 dX13_scanFields_137
        · rw [if_pos c_7] at hsp
          refine lv_aload_n hx hb dX13_scanFields_54 rfl (lv_at hl 2 rfl) ?_
          refine va_get (D := (dC, dI)) (ci := 13) (v := .ref qf107) (C := RX13) (T := TX13) (N := 155) hx hb hts uV_h9_X13 hown hK hP 0 rfl rfl 107 (by decide) (hts (.fieldLink RX13 230 "ClassMillModel" "fieldAt" "[I") mw_h9_257) (fun _ h9 => h9) hfh_35_107 dX13_scanFields_55 ?_
          refine lv_bipush (v := 12) hx hb dX13_scanFields_58 (by decide) ?_
          refine lv_iload_n hx hb dX13_scanFields_60 rfl (lv_at hl 3 rfl) ?_
          refine lv_imul hx hb dX13_scanFields_61 ?_
          refine lv_iload hx hb dX13_scanFields_62 (lv_at hl 0 rfl) ?_
          refine lv_iadd hx hb dX13_scanFields_64 ?_
          refine lv_iload_n hx hb dX13_scanFields_65 rfl (lv_at hl 1 rfl) ?_
          obtain ⟨hi_8, hsp⟩ := ox_in hsp
          refine va_iast hx hb hK hP hD hS 3 2 rfl rfl (i := ((12 * l1_35) + l4_35)) (x := l3_35) hi_8 dX13_scanFields_66 ?_
          clear hP hD hS
          intro H locs hP hD hS
          replace hP : va_P (dC, dI) vwCl [(h0, .inr (13, z35)), (qf112, .inl (cf112, 6000, .inl f112)), (qf106, .inl (cf106, 8, .inl g106_35)), (qf107, .inl (cf107, 96, .inl (upd g107_35 (((12 * l1_35) + l4_35) : Int32).toNatClampNeg l3_35))), (qf103, .inl (cf103, 8, .inl f103)), (qf102, .inl (cf102, 2048, .inl f102))] H := hP
          replace hD : va_D A [(h0, .inr (13, z35)), (qf112, .inl (cf112, 6000, .inl f112)), (qf106, .inl (cf106, 8, .inl g106_35)), (qf107, .inl (cf107, 96, .inl (upd g107_35 (((12 * l1_35) + l4_35) : Int32).toNatClampNeg l3_35))), (qf103, .inl (cf103, 8, .inl f103)), (qf102, .inl (cf102, 2048, .inl f102))] := hD
          refine lv_aload_n hx hb dX13_scanFields_67 rfl (lv_at hl 2 rfl) ?_
          refine lv_iload_n hx hb dX13_scanFields_68 rfl (lv_at hl 1 rfl) ?_
          obtain ⟨⟨u2_0, u2_1⟩, hu_2, hsp⟩ := ox_bind hsp
          try dsimp only at hsp
          have hPc := hP.sub (ws' := [(h0, .inr (13, z35))]) [0] rfl
          have hDc := hD.sub (ws' := [(h0, .inr (13, z35))]) [0] (by decide) rfl
          have hKc := hK.sub (tys' := []) [] rfl
          have hFc := va_free (wc := [(h0, .inr (13, z35))]) hD hS hA [0] rfl
          refine va_calli (va_runV (As := [.int l3_35]) (rest := []) ⟨hx, hb, hml, hown, hts⟩ (tm_isByte l dC dI H.size h0 z35 l3_35 v113 x114_35 nf u2_0 u2_1 hlh_35 hfh_35_113 hfh_35_114 hu_2) (cwV 1 hts gv_h9_47 rfl rfl rfl (by decide +kernel) ⟨Nat.le_of_ble_eq_true rfl, Nat.le_of_ble_eq_true rfl⟩) ⟨fun a U g mk q => by obtain ⟨q0, q1, qP, qK, qD⟩ := q; exact ⟨q0, q1, qP, va_K.moved (u := U) (U := U.calling g mk a) (Vm.Alike.refl U.vm) qK, qD⟩, va_recv hKc hPc (ci := 13) (q0 := 0) rfl rfl, fun U hU hW => ⟨rfl, by rw [hU], by rw [hU]; exact hPc, va_K.moved hW.alike hKc, hDc.weaken (fun _ _ _ _ => trivial)⟩⟩ rfl rfl hl.1 rfl (lv_room (Nat.le_of_ble_eq_true rfl)) dX13_scanFields_69 ⟨Nat.le_of_ble_eq_true rfl, Nat.le_of_ble_eq_true rfl⟩) hS (fun q _ h => hFc q h) hFc ?_
          clear hS
          intro r_9 u t H1 locs ht hvm hw hB hz1 hk1 hS
          obtain ⟨z_2, rfl⟩ : ∃ z, z = u := ⟨_, rfl⟩
          obtain ⟨hP1, hK1, hD1⟩ := hB
          rw [ht] at hP1
          have hK1 := va_K.moved hvm.symm hK1
          try dsimp only at hw
          have hPD := va_join (wr := [(qf112, .inl (cf112, 6000, .inl f112)), (qf106, .inl (cf106, 8, .inl g106_35)), (qf107, .inl (cf107, 96, .inl (upd g107_35 (((12 * l1_35) + l4_35) : Int32).toNatClampNeg l3_35))), (qf103, .inl (cf103, 8, .inl f103)), (qf102, .inl (cf102, 2048, .inl f102))]) (w1 := [(h0, .inr (13, z_2))]) hP hD [0] [1, 2, 3, 4, 5] rfl rfl (by decide) (by decide) hk1 hFc hP1 hD1
          clear hP hD
          obtain ⟨hP, hD⟩ := hPD
          replace hK := (hK.sub (tys' := [(cf112, .int), (cf106, .int), (cf107, .int), (cf103, .int), (cf102, .int)]) [0, 1, 2, 3, 4] rfl).app hK1
          clear hPc hDc hKc hFc hP1 hK1 hD1 hz1 hk1 ht hvm
          generalize H1 = H at hP hS ⊢
          replace hP : va_P (dC, dI) vwCl [(qf112, .inl (cf112, 6000, .inl f112)), (qf106, .inl (cf106, 8, .inl g106_35)), (qf107, .inl (cf107, 96, .inl (upd g107_35 (((12 * l1_35) + l4_35) : Int32).toNatClampNeg l3_35))), (qf103, .inl (cf103, 8, .inl f103)), (qf102, .inl (cf102, 2048, .inl f102)), (h0, .inr (13, z_2))] H := hP
          replace hD : va_D A [(qf112, .inl (cf112, 6000, .inl f112)), (qf106, .inl (cf106, 8, .inl g106_35)), (qf107, .inl (cf107, 96, .inl (upd g107_35 (((12 * l1_35) + l4_35) : Int32).toNatClampNeg l3_35))), (qf103, .inl (cf103, 8, .inl f103)), (qf102, .inl (cf102, 2048, .inl f102)), (h0, .inr (13, z_2))] := hD
          replace hK : va_K (dC, dI) vwCl [(cf112, .int), (cf106, .int), (cf107, .int), (cf103, .int), (cf102, .int)] s := hK
          obtain ⟨hwa_2, hln_2, hre_2, hch_2_114⟩ := hw
          have hfk_2_102 : z_2[102]? = some (.ref qf102) := (hre_2 102 (by decide)).trans (hfh_35_102)
          have hfk_2_103 : z_2[103]? = some (.ref qf103) := (hre_2 103 (by decide)).trans (hfh_35_103)
          have hfk_2_106 : z_2[106]? = some (.ref qf106) := (hre_2 106 (by decide)).trans (hfh_35_106)
          have hfk_2_107 : z_2[107]? = some (.ref qf107) := (hre_2 107 (by decide)).trans (hfh_35_107)
          have hfk_2_112 : z_2[112]? = some (.ref qf112) := (hre_2 112 (by decide)).trans (hfh_35_112)
          have hfk_2_113 : z_2[113]? = some (.int v113) := (hre_2 113 (by decide)).trans (hfh_35_113)
          have hfk_2_115 : z_2[115]? = some (.int v115) := (hre_2 115 (by decide)).trans (hfh_35_115)
          have hrq_2 : ∀ j : Nat, j ≠ 114 → z_2[j]? = zs[j]? := fun j g114 => (hre_2 j g114).trans (hrh_35 j g114)
          obtain ⟨rfl, hz_2⟩ := hwa_2
          rcases hz_2 with rfl | rfl
          · rw [if_pos rfl] at hsp
            refine lv_if_eq (tgt := 94) hx hb dX13_scanFields_72 (by decide) (fun c_10 => ?_) (fun c_10 => (show False by revert c_10; decide).elim)
            exact hj_94 (H, locs, ls, z_2, l1_35, l2_35, l3_35, l4_35, g106_35, (upd g107_35 (((12 * l1_35) + l4_35) : Int32).toNatClampNeg l3_35), u2_1) ⟨lv_sub hl [2, 3, 4, 1, 0] rfl, hS, hD.sub (ws' := [(h0, .inr (13, z_2)), (qf112, .inl (cf112, 6000, .inl f112)), (qf106, .inl (cf106, 8, .inl g106_35)), (qf107, .inl (cf107, 96, .inl (upd g107_35 (((12 * l1_35) + l4_35) : Int32).toNatClampNeg l3_35))), (qf103, .inl (cf103, 8, .inl f103)), (qf102, .inl (cf102, 2048, .inl f102))]) [5, 0, 1, 2, 3, 4] (by decide) rfl, hP.sub (ws' := [(h0, .inr (13, z_2)), (qf112, .inl (cf112, 6000, .inl f112)), (qf106, .inl (cf106, 8, .inl g106_35)), (qf107, .inl (cf107, 96, .inl (upd g107_35 (((12 * l1_35) + l4_35) : Int32).toNatClampNeg l3_35))), (qf103, .inl (cf103, 8, .inl f103)), (qf102, .inl (cf102, 2048, .inl f102))]) [5, 0, 1, 2, 3, 4] rfl, hfk_2_102, hfk_2_103, hfk_2_106, hfk_2_107, hfk_2_112, hfk_2_113, hch_2_114, hfk_2_115, hln_2, hrq_2, hsp⟩
          · rw [if_neg (by decide)] at hsp
            refine lv_if_eq (tgt := 94) hx hb dX13_scanFields_72 (by decide) (fun c_11 => (show False by revert c_11; decide).elim) (fun c_11 => ?_)
            refine lv_aload_n hx hb dX13_scanFields_75 rfl (lv_at hl 2 rfl) ?_
            refine lv_aload_n hx hb dX13_scanFields_76 rfl (lv_at hl 2 rfl) ?_
            refine va_get (D := (dC, dI)) (ci := 13) (v := .ref qf112) (C := RX13) (T := TX13) (N := 155) hx hb hts uV_h9_X13 hown hK hP 5 rfl rfl 112 (by decide) (hts (.fieldLink RX13 245 "ClassMillModel" "look" "[I") mw_h9_242) (fun _ h9 => h9) hfk_2_112 dX13_scanFields_77 ?_
            refine lv_iload_n hx hb dX13_scanFields_80 rfl (lv_at hl 1 rfl) ?_
            obtain ⟨hi_12, hsp⟩ := ox_in hsp
            refine va_iald hx hb hK hP 0 0 rfl rfl (i := l3_35) hi_12 dX13_scanFields_81 ?_
            refine lv_iconst (v := 0) hx hb dX13_scanFields_82 (by decide) ?_
            obtain ⟨u3_0, hu_3, hsp⟩ := ox_bind hsp
            try dsimp only at hsp
            have hPc := hP.sub (ws' := [(h0, .inr (13, z_2)), (qf103, .inl (cf103, 8, .inl f103)), (qf102, .inl (cf102, 2048, .inl f102)), (qf112, .inl (cf112, 6000, .inl f112))]) [5, 3, 4, 0] rfl
            have hDc := hD.sub (ws' := [(h0, .inr (13, z_2)), (qf103, .inl (cf103, 8, .inl f103)), (qf102, .inl (cf102, 2048, .inl f102)), (qf112, .inl (cf112, 6000, .inl f112))]) [5, 3, 4, 0] (by decide) rfl
            have hKc := hK.sub (tys' := [(cf103, .int), (cf102, .int), (cf112, .int)]) [3, 4, 0] rfl
            have hFc := va_free (wc := [(h0, .inr (13, z_2)), (qf103, .inl (cf103, 8, .inl f103)), (qf102, .inl (cf102, 2048, .inl f102)), (qf112, .inl (cf112, 6000, .inl f112))]) hD hS hA [5, 3, 4, 0] rfl
            refine va_calli (va_runV (As := [.int (f112 (l3_35 : Int32).toNatClampNeg), .int 0]) (rest := []) ⟨hx, hb, hml, hown, hts⟩ (vm_isText l dC dI H.size h0 z_2 ((f112 (l3_35 : Int32).toNatClampNeg)) 0 qf102 qf103 qf112 v115 cf103 f103 cf102 f102 cf112 f112 nf u3_0 hln_2 hfk_2_102 hfk_2_103 hfk_2_112 hfk_2_115 hu_3) (cwV 2 hts gv_h9_49 rfl rfl rfl (by decide +kernel) ⟨Nat.le_of_ble_eq_true rfl, Nat.le_of_ble_eq_true rfl⟩) ⟨fun a U g mk q => by obtain ⟨q0, q1, qP, qK, qD⟩ := q; exact ⟨q0, q1, qP, va_K.moved (u := U) (U := U.calling g mk a) (Vm.Alike.refl U.vm) qK, qD⟩, va_recv hKc hPc (ci := 13) (q0 := 0) rfl rfl, fun U hU hW => ⟨rfl, by rw [hU], by rw [hU]; exact hPc, va_K.moved hW.alike hKc, hDc.weaken (fun _ _ _ _ => trivial)⟩⟩ rfl rfl hl.1 rfl (lv_room (Nat.le_of_ble_eq_true rfl)) dX13_scanFields_83 ⟨Nat.le_of_ble_eq_true rfl, Nat.le_of_ble_eq_true rfl⟩) hS (fun q _ h => hFc q h) hFc ?_
            clear hS
            intro r_13 u t H1 locs ht hvm hw hB hz1 hk1 hS
            obtain ⟨z_3, rfl⟩ : ∃ z, z = u := ⟨_, rfl⟩
            obtain ⟨hP1, hK1, hD1⟩ := hB
            rw [ht] at hP1
            have hK1 := va_K.moved hvm.symm hK1
            try dsimp only at hw
            have hPD := va_join (wr := [(qf106, .inl (cf106, 8, .inl g106_35)), (qf107, .inl (cf107, 96, .inl (upd g107_35 (((12 * l1_35) + l4_35) : Int32).toNatClampNeg l3_35)))]) (w1 := [(h0, .inr (13, z_3)), (qf103, .inl (cf103, 8, .inl f103)), (qf102, .inl (cf102, 2048, .inl f102)), (qf112, .inl (cf112, 6000, .inl f112))]) hP hD [5, 3, 4, 0] [1, 2] rfl rfl (by decide) (by decide) hk1 hFc hP1 hD1
            clear hP hD
            obtain ⟨hP, hD⟩ := hPD
            replace hK := (hK.sub (tys' := [(cf106, .int), (cf107, .int)]) [1, 2] rfl).app hK1
            clear hPc hDc hKc hFc hP1 hK1 hD1 hz1 hk1 ht hvm
            generalize H1 = H at hP hS ⊢
            replace hP : va_P (dC, dI) vwCl [(qf106, .inl (cf106, 8, .inl g106_35)), (qf107, .inl (cf107, 96, .inl (upd g107_35 (((12 * l1_35) + l4_35) : Int32).toNatClampNeg l3_35))), (h0, .inr (13, z_3)), (qf103, .inl (cf103, 8, .inl f103)), (qf102, .inl (cf102, 2048, .inl f102)), (qf112, .inl (cf112, 6000, .inl f112))] H := hP
            replace hD : va_D A [(qf106, .inl (cf106, 8, .inl g106_35)), (qf107, .inl (cf107, 96, .inl (upd g107_35 (((12 * l1_35) + l4_35) : Int32).toNatClampNeg l3_35))), (h0, .inr (13, z_3)), (qf103, .inl (cf103, 8, .inl f103)), (qf102, .inl (cf102, 2048, .inl f102)), (qf112, .inl (cf112, 6000, .inl f112))] := hD
            replace hK : va_K (dC, dI) vwCl [(cf106, .int), (cf107, .int), (cf103, .int), (cf102, .int), (cf112, .int)] s := hK
            obtain ⟨hwa_3, hln_3, hre_3⟩ := hw
            have hfk_3_102 : z_3[102]? = some (.ref qf102) := (hre_3 102 ).trans (hfk_2_102)
            have hfk_3_103 : z_3[103]? = some (.ref qf103) := (hre_3 103 ).trans (hfk_2_103)
            have hfk_3_106 : z_3[106]? = some (.ref qf106) := (hre_3 106 ).trans (hfk_2_106)
            have hfk_3_107 : z_3[107]? = some (.ref qf107) := (hre_3 107 ).trans (hfk_2_107)
            have hfk_3_112 : z_3[112]? = some (.ref qf112) := (hre_3 112 ).trans (hfk_2_112)
            have hfk_3_113 : z_3[113]? = some (.int v113) := (hre_3 113 ).trans (hfk_2_113)
            have hfk_3_114 : z_3[114]? = some (.int u2_1) := (hre_3 114 ).trans (hch_2_114)
            have hfk_3_115 : z_3[115]? = some (.int v115) := (hre_3 115 ).trans (hfk_2_115)
            have hrq_3 : ∀ j : Nat, j ≠ 114 → z_3[j]? = zs[j]? := fun j g114 => (hre_3 j ).trans (hrq_2 j g114)
            obtain ⟨rfl, hz_3⟩ := hwa_3
            rcases hz_3 with rfl | rfl
            · rw [if_pos rfl] at hsp
              refine lv_if_ne (tgt := 94) hx hb dX13_scanFields_86 (by decide) (fun c_14 => (show False by revert c_14; decide).elim) (fun c_14 => ?_)
              refine lv_aload_n hx hb dX13_scanFields_89 rfl (lv_at hl 2 rfl) ?_
              refine lv_iload_n hx hb dX13_scanFields_90 rfl (lv_at hl 1 rfl) ?_
              obtain ⟨u4_0, hu_4, hsp⟩ := ox_bind hsp
              try dsimp only at hsp
              have hPc := hP.sub (ws' := [(h0, .inr (13, z_3))]) [2] rfl
              have hDc := hD.sub (ws' := [(h0, .inr (13, z_3))]) [2] (by decide) rfl
              have hKc := hK.sub (tys' := []) [] rfl
              have hFc := va_free (wc := [(h0, .inr (13, z_3))]) hD hS hA [2] rfl
              refine va_callv (va_runV (As := [.int l3_35]) (rest := []) ⟨hx, hb, hml, hown, hts⟩ (tm_unfit l dC dI H.size h0 z_3 l3_35 u2_1 nf u4_0 hln_3 hfk_3_114 hu_4) (cwV 1 hts gv_h9_48 rfl rfl rfl (by decide +kernel) ⟨Nat.le_of_ble_eq_true rfl, Nat.le_of_ble_eq_true rfl⟩) ⟨fun a U g mk q => by obtain ⟨q0, q1, qP, qK, qD⟩ := q; exact ⟨q0, q1, qP, va_K.moved (u := U) (U := U.calling g mk a) (Vm.Alike.refl U.vm) qK, qD⟩, va_recv hKc hPc (ci := 13) (q0 := 0) rfl rfl, fun U hU hW => ⟨rfl, by rw [hU], by rw [hU]; exact hPc, va_K.moved hW.alike hKc, hDc.weaken (fun _ _ _ _ => trivial)⟩⟩ rfl rfl hl.1 rfl (lv_room (Nat.le_of_ble_eq_true rfl)) dX13_scanFields_91 ⟨Nat.le_of_ble_eq_true rfl, Nat.le_of_ble_eq_true rfl⟩) hS (fun q _ h => hFc q h) hFc ?_
              clear hS
              intro u t H1 locs ht hvm hw hB hz1 hk1 hS
              obtain ⟨z_4, rfl⟩ : ∃ z, z = u := ⟨_, rfl⟩
              obtain ⟨hP1, hK1, hD1⟩ := hB
              rw [ht] at hP1
              have hK1 := va_K.moved hvm.symm hK1
              try dsimp only at hw
              have hPD := va_join (wr := [(qf106, .inl (cf106, 8, .inl g106_35)), (qf107, .inl (cf107, 96, .inl (upd g107_35 (((12 * l1_35) + l4_35) : Int32).toNatClampNeg l3_35))), (qf103, .inl (cf103, 8, .inl f103)), (qf102, .inl (cf102, 2048, .inl f102)), (qf112, .inl (cf112, 6000, .inl f112))]) (w1 := [(h0, .inr (13, z_4))]) hP hD [2] [0, 1, 3, 4, 5] rfl rfl (by decide) (by decide) hk1 hFc hP1 hD1
              clear hP hD
              obtain ⟨hP, hD⟩ := hPD
              replace hK := (hK.sub (tys' := [(cf106, .int), (cf107, .int), (cf103, .int), (cf102, .int), (cf112, .int)]) [0, 1, 2, 3, 4] rfl).app hK1
              clear hPc hDc hKc hFc hP1 hK1 hD1 hz1 hk1 ht hvm
              generalize H1 = H at hP hS ⊢
              replace hP : va_P (dC, dI) vwCl [(qf106, .inl (cf106, 8, .inl g106_35)), (qf107, .inl (cf107, 96, .inl (upd g107_35 (((12 * l1_35) + l4_35) : Int32).toNatClampNeg l3_35))), (qf103, .inl (cf103, 8, .inl f103)), (qf102, .inl (cf102, 2048, .inl f102)), (qf112, .inl (cf112, 6000, .inl f112)), (h0, .inr (13, z_4))] H := hP
              replace hD : va_D A [(qf106, .inl (cf106, 8, .inl g106_35)), (qf107, .inl (cf107, 96, .inl (upd g107_35 (((12 * l1_35) + l4_35) : Int32).toNatClampNeg l3_35))), (qf103, .inl (cf103, 8, .inl f103)), (qf102, .inl (cf102, 2048, .inl f102)), (qf112, .inl (cf112, 6000, .inl f112)), (h0, .inr (13, z_4))] := hD
              replace hK : va_K (dC, dI) vwCl [(cf106, .int), (cf107, .int), (cf103, .int), (cf102, .int), (cf112, .int)] s := hK
              obtain ⟨hwa_4, hln_4, hre_4, hch_4_114⟩ := hw
              have hfk_4_102 : z_4[102]? = some (.ref qf102) := (hre_4 102 (by decide)).trans (hfk_3_102)
              have hfk_4_103 : z_4[103]? = some (.ref qf103) := (hre_4 103 (by decide)).trans (hfk_3_103)
              have hfk_4_106 : z_4[106]? = some (.ref qf106) := (hre_4 106 (by decide)).trans (hfk_3_106)
              have hfk_4_107 : z_4[107]? = some (.ref qf107) := (hre_4 107 (by decide)).trans (hfk_3_107)
              have hfk_4_112 : z_4[112]? = some (.ref qf112) := (hre_4 112 (by decide)).trans (hfk_3_112)
              have hfk_4_113 : z_4[113]? = some (.int v113) := (hre_4 113 (by decide)).trans (hfk_3_113)
              have hfk_4_115 : z_4[115]? = some (.int v115) := (hre_4 115 (by decide)).trans (hfk_3_115)
              have hrq_4 : ∀ j : Nat, j ≠ 114 → z_4[j]? = zs[j]? := fun j g114 => (hre_4 j g114).trans (hrq_3 j g114)
              exact hj_94 (H, locs, ls, z_4, l1_35, l2_35, l3_35, l4_35, g106_35, (upd g107_35 (((12 * l1_35) + l4_35) : Int32).toNatClampNeg l3_35), u4_0) ⟨lv_sub hl [2, 3, 4, 1, 0] rfl, hS, hD.sub (ws' := [(h0, .inr (13, z_4)), (qf112, .inl (cf112, 6000, .inl f112)), (qf106, .inl (cf106, 8, .inl g106_35)), (qf107, .inl (cf107, 96, .inl (upd g107_35 (((12 * l1_35) + l4_35) : Int32).toNatClampNeg l3_35))), (qf103, .inl (cf103, 8, .inl f103)), (qf102, .inl (cf102, 2048, .inl f102))]) [5, 4, 0, 1, 2, 3] (by decide) rfl, hP.sub (ws' := [(h0, .inr (13, z_4)), (qf112, .inl (cf112, 6000, .inl f112)), (qf106, .inl (cf106, 8, .inl g106_35)), (qf107, .inl (cf107, 96, .inl (upd g107_35 (((12 * l1_35) + l4_35) : Int32).toNatClampNeg l3_35))), (qf103, .inl (cf103, 8, .inl f103)), (qf102, .inl (cf102, 2048, .inl f102))]) [5, 4, 0, 1, 2, 3] rfl, hfk_4_102, hfk_4_103, hfk_4_106, hfk_4_107, hfk_4_112, hfk_4_113, hch_4_114, hfk_4_115, hln_4, hrq_4, hsp⟩
            · rw [if_neg (by decide)] at hsp
              refine lv_if_ne (tgt := 94) hx hb dX13_scanFields_86 (by decide) (fun c_15 => ?_) (fun c_15 => (show False by revert c_15; decide).elim)
              exact hj_94 (H, locs, ls, z_3, l1_35, l2_35, l3_35, l4_35, g106_35, (upd g107_35 (((12 * l1_35) + l4_35) : Int32).toNatClampNeg l3_35), u2_1) ⟨lv_sub hl [2, 3, 4, 1, 0] rfl, hS, hD.sub (ws' := [(h0, .inr (13, z_3)), (qf112, .inl (cf112, 6000, .inl f112)), (qf106, .inl (cf106, 8, .inl g106_35)), (qf107, .inl (cf107, 96, .inl (upd g107_35 (((12 * l1_35) + l4_35) : Int32).toNatClampNeg l3_35))), (qf103, .inl (cf103, 8, .inl f103)), (qf102, .inl (cf102, 2048, .inl f102))]) [2, 5, 0, 1, 3, 4] (by decide) rfl, hP.sub (ws' := [(h0, .inr (13, z_3)), (qf112, .inl (cf112, 6000, .inl f112)), (qf106, .inl (cf106, 8, .inl g106_35)), (qf107, .inl (cf107, 96, .inl (upd g107_35 (((12 * l1_35) + l4_35) : Int32).toNatClampNeg l3_35))), (qf103, .inl (cf103, 8, .inl f103)), (qf102, .inl (cf102, 2048, .inl f102))]) [2, 5, 0, 1, 3, 4] rfl, hfk_3_102, hfk_3_103, hfk_3_106, hfk_3_107, hfk_3_112, hfk_3_113, hfk_3_114, hfk_3_115, hln_3, hrq_3, hsp⟩
  intro hj_16
  refine lv_aload_n hx hb dX13_scanFields_0 rfl (lv_at hl 0 rfl) ?_
  refine va_get (D := (dC, dI)) (ci := 13) (v := .ref qf112) (C := RX13) (T := TX13) (N := 155) hx hb hts uV_h9_X13 hown hK hP 0 rfl rfl 112 (by decide) (hts (.fieldLink RX13 245 "ClassMillModel" "look" "[I") mw_h9_242) (fun _ h9 => h9) hf112 dX13_scanFields_1 ?_
  refine lv_iload_n hx hb dX13_scanFields_4 rfl (lv_at hl 2 rfl) ?_
  obtain ⟨hi_1, hsp⟩ := ox_in hsp
  refine va_iald hx hb hK hP 1 0 rfl rfl (i := a2) hi_1 dX13_scanFields_5 ?_
  refine lv_bipush (v := 12) hx hb dX13_scanFields_6 (by decide) ?_
  refine lv_icmp_le (tgt := 16) hx hb dX13_scanFields_8 (by decide) (fun c_2 => ?_) (fun c_2 => ?_)
  · rw [if_pos c_2] at hsp
    exact hj_16 (H, locs, ls, zs, a1, a2, f106, f107, v114) ⟨lv_sub hl [0, 1, 2] rfl, hS, hD.sub (ws' := [(h0, .inr (13, zs)), (qf112, .inl (cf112, 6000, .inl f112)), (qf106, .inl (cf106, 8, .inl f106)), (qf107, .inl (cf107, 96, .inl f107)), (qf103, .inl (cf103, 8, .inl f103)), (qf102, .inl (cf102, 2048, .inl f102))]) [0, 1, 2, 3, 4, 5] (by decide) rfl, hP.sub (ws' := [(h0, .inr (13, zs)), (qf112, .inl (cf112, 6000, .inl f112)), (qf106, .inl (cf106, 8, .inl f106)), (qf107, .inl (cf107, 96, .inl f107)), (qf103, .inl (cf103, 8, .inl f103)), (qf102, .inl (cf102, 2048, .inl f102))]) [0, 1, 2, 3, 4, 5] rfl, hf102, hf103, hf106, hf107, hf112, hf113, hf114, hf115, hlen, hrs0, hsp⟩
  · rw [if_neg c_2] at hsp
    refine lv_aload_n hx hb dX13_scanFields_11 rfl (lv_at hl 0 rfl) ?_
    refine lv_iload_n hx hb dX13_scanFields_12 rfl (lv_at hl 2 rfl) ?_
    obtain ⟨u1_0, hu_1, hsp⟩ := ox_bind hsp
    try dsimp only at hsp
    have hPc := hP.sub (ws' := [(h0, .inr (13, zs))]) [0] rfl
    have hDc := hD.sub (ws' := [(h0, .inr (13, zs))]) [0] (by decide) rfl
    have hKc := hK.sub (tys' := []) [] rfl
    have hFc := va_free (wc := [(h0, .inr (13, zs))]) hD hS hA [0] rfl
    refine va_callv (va_runV (As := [.int a2]) (rest := []) ⟨hx, hb, hml, hown, hts⟩ (tm_unfit l dC dI H.size h0 zs a2 v114 nf u1_0 hlen hf114 hu_1) (cwV 1 hts gv_h9_48 rfl rfl rfl (by decide +kernel) ⟨Nat.le_of_ble_eq_true rfl, Nat.le_of_ble_eq_true rfl⟩) ⟨fun a U g mk q => by obtain ⟨q0, q1, qP, qK, qD⟩ := q; exact ⟨q0, q1, qP, va_K.moved (u := U) (U := U.calling g mk a) (Vm.Alike.refl U.vm) qK, qD⟩, va_recv hKc hPc (ci := 13) (q0 := 0) rfl rfl, fun U hU hW => ⟨rfl, by rw [hU], by rw [hU]; exact hPc, va_K.moved hW.alike hKc, hDc.weaken (fun _ _ _ _ => trivial)⟩⟩ rfl rfl hl.1 rfl (lv_room (Nat.le_of_ble_eq_true rfl)) dX13_scanFields_13 ⟨Nat.le_of_ble_eq_true rfl, Nat.le_of_ble_eq_true rfl⟩) hS (fun q _ h => hFc q h) hFc ?_
    clear hS
    intro u t H1 locs ht hvm hw hB hz1 hk1 hS
    obtain ⟨z_1, rfl⟩ : ∃ z, z = u := ⟨_, rfl⟩
    obtain ⟨hP1, hK1, hD1⟩ := hB
    rw [ht] at hP1
    have hK1 := va_K.moved hvm.symm hK1
    try dsimp only at hw
    have hPD := va_join (wr := [(qf112, .inl (cf112, 6000, .inl f112)), (qf106, .inl (cf106, 8, .inl f106)), (qf107, .inl (cf107, 96, .inl f107)), (qf103, .inl (cf103, 8, .inl f103)), (qf102, .inl (cf102, 2048, .inl f102))]) (w1 := [(h0, .inr (13, z_1))]) hP hD [0] [1, 2, 3, 4, 5] rfl rfl (by decide) (by decide) hk1 hFc hP1 hD1
    clear hP hD
    obtain ⟨hP, hD⟩ := hPD
    replace hK := (hK.sub (tys' := [(cf112, .int), (cf106, .int), (cf107, .int), (cf103, .int), (cf102, .int)]) [0, 1, 2, 3, 4] rfl).app hK1
    clear hPc hDc hKc hFc hP1 hK1 hD1 hz1 hk1 ht hvm
    generalize H1 = H at hP hS ⊢
    replace hP : va_P (dC, dI) vwCl [(qf112, .inl (cf112, 6000, .inl f112)), (qf106, .inl (cf106, 8, .inl f106)), (qf107, .inl (cf107, 96, .inl f107)), (qf103, .inl (cf103, 8, .inl f103)), (qf102, .inl (cf102, 2048, .inl f102)), (h0, .inr (13, z_1))] H := hP
    replace hD : va_D A [(qf112, .inl (cf112, 6000, .inl f112)), (qf106, .inl (cf106, 8, .inl f106)), (qf107, .inl (cf107, 96, .inl f107)), (qf103, .inl (cf103, 8, .inl f103)), (qf102, .inl (cf102, 2048, .inl f102)), (h0, .inr (13, z_1))] := hD
    replace hK : va_K (dC, dI) vwCl [(cf112, .int), (cf106, .int), (cf107, .int), (cf103, .int), (cf102, .int)] s := hK
    obtain ⟨hwa_1, hln_1, hre_1, hch_1_114⟩ := hw
    have hfk_1_102 : z_1[102]? = some (.ref qf102) := (hre_1 102 (by decide)).trans (hf102)
    have hfk_1_103 : z_1[103]? = some (.ref qf103) := (hre_1 103 (by decide)).trans (hf103)
    have hfk_1_106 : z_1[106]? = some (.ref qf106) := (hre_1 106 (by decide)).trans (hf106)
    have hfk_1_107 : z_1[107]? = some (.ref qf107) := (hre_1 107 (by decide)).trans (hf107)
    have hfk_1_112 : z_1[112]? = some (.ref qf112) := (hre_1 112 (by decide)).trans (hf112)
    have hfk_1_113 : z_1[113]? = some (.int v113) := (hre_1 113 (by decide)).trans (hf113)
    have hfk_1_115 : z_1[115]? = some (.int v115) := (hre_1 115 (by decide)).trans (hf115)
    have hrq_1 : ∀ j : Nat, j ≠ 114 → z_1[j]? = zs[j]? := fun j g114 => (hre_1 j g114).trans (hrs0 j g114)
    exact hj_16 (H, locs, ls, z_1, a1, a2, f106, f107, u1_0) ⟨lv_sub hl [0, 1, 2] rfl, hS, hD.sub (ws' := [(h0, .inr (13, z_1)), (qf112, .inl (cf112, 6000, .inl f112)), (qf106, .inl (cf106, 8, .inl f106)), (qf107, .inl (cf107, 96, .inl f107)), (qf103, .inl (cf103, 8, .inl f103)), (qf102, .inl (cf102, 2048, .inl f102))]) [5, 0, 1, 2, 3, 4] (by decide) rfl, hP.sub (ws' := [(h0, .inr (13, z_1)), (qf112, .inl (cf112, 6000, .inl f112)), (qf106, .inl (cf106, 8, .inl f106)), (qf107, .inl (cf107, 96, .inl f107)), (qf103, .inl (cf103, 8, .inl f103)), (qf102, .inl (cf102, 2048, .inl f102))]) [5, 0, 1, 2, 3, 4] rfl, hfk_1_102, hfk_1_103, hfk_1_106, hfk_1_107, hfk_1_112, hfk_1_113, hch_1_114, hfk_1_115, hln_1, hrq_1, hsp⟩
def jn_vm_scanTypes_55 (nf : Nat) (a1 : Int32) (v113 : Int32) (v114 : Int32) (v115 : Int32) (f112 : Nat → Int32) (f103 : Nat → Int32) (f102 : Nat → Int32) (kk_24 : Int32 → Int32 → Int32 → Int32 → Option (Int32 × Int32)) (l2_55 : Int32) (l3_55 : Int32) (l4_55 : Int32) (x114_55 : Int32) : Option (Int32 × Int32) := (if l3_55 < 0 then none else if 6000 ≤ (l3_55 : Int32).toNatClampNeg then none else (if (f112 (l3_55 : Int32).toNatClampNeg) = 3 then ((sp_tm_isByte nf (l3_55 + 1) v113 x114_55).bind (fun p1 => (if p1.1 = 0 then (kk_24 l2_55 ((l3_55 + 1) + 1) (l4_55 + 1) p1.2) else (if (l3_55 + 1) < 0 then none else if 6000 ≤ ((l3_55 + 1) : Int32).toNatClampNeg then none else ((sp_tn_isClassConstant nf (f112 ((l3_55 + 1) : Int32).toNatClampNeg) 1 v115 f103 f102 f112).bind (fun p2 => (if p2 = 0 then ((sp_tm_unfit nf (l3_55 + 1) p1.2).bind (fun p3 => (kk_24 l2_55 ((l3_55 + 1) + 1) (l4_55 + 1) p3))) else (kk_24 l2_55 ((l3_55 + 1) + 1) (l4_55 + 1) p1.2)))))))) else (kk_24 l2_55 (l3_55 + 1) (l4_55 + 1) x114_55)))
def lp_vm_scanTypes_24 (nf n : Nat) (a1 : Int32) (v113 : Int32) (v114 : Int32) (v115 : Int32) (f112 : Nat → Int32) (f103 : Nat → Int32) (f102 : Nat → Int32)  (l2_24 : Int32) (l3_24 : Int32) (l4_24 : Int32) (x114_24 : Int32) : Option (Int32 × Int32) := match n with
  | 0 => none
  | n + 1 => (if l2_24 ≤ l4_24 then (some (l3_24, x114_24)) else ((sp_tm_isByte nf l3_24 v113 x114_24).bind (fun p1 => (if p1.1 = 0 then (some (l3_24, p1.2)) else (if l3_24 < 0 then none else if 6000 ≤ (l3_24 : Int32).toNatClampNeg then none else (if (f112 (l3_24 : Int32).toNatClampNeg) ≤ 3 then (jn_vm_scanTypes_55 nf a1 v113 v114 v115 f112 f103 f102 (lp_vm_scanTypes_24 nf n a1 v113 v114 v115 f112 f103 f102) l2_24 l3_24 l4_24 p1.2) else ((sp_tm_unfit nf l3_24 p1.2).bind (fun p2 => (jn_vm_scanTypes_55 nf a1 v113 v114 v115 f112 f103 f102 (lp_vm_scanTypes_24 nf n a1 v113 v114 v115 f112 f103 f102) l2_24 l3_24 l4_24 p2)))))))))
def sp_vm_scanTypes (nf : Nat) (a1 : Int32) (v113 : Int32) (v114 : Int32) (v115 : Int32) (f112 : Nat → Int32) (f103 : Nat → Int32) (f102 : Nat → Int32) : Option (Int32 × Int32) := ((sp_tm_isByte nf a1 v113 v114).bind (fun p1 => (if p1.1 = 0 then (some (a1, p1.2)) else (if a1 < 0 then none else if 6000 ≤ (a1 : Int32).toNatClampNeg then none else (lp_vm_scanTypes_24 nf nf a1 v113 v114 v115 f112 f103 f102  (f112 (a1 : Int32).toNatClampNeg) (a1 + 1) 0 p1.2)))))
set_option maxHeartbeats 4000000 in
set_option maxRecDepth 100000 in
/-- ClassMillModel.scanTypes -/
theorem vm_scanTypes (l : Launch) (dC : Nat → ClassId) (dI : Nat → Nat → Nat) (sz : Nat) (h0 : Nat) (zs : (List Value)) (a1 : Int32) (qf102 : Nat) (qf103 : Nat) (qf112 : Nat) (v113 : Int32) (v114 : Int32) (v115 : Int32) (cf112 : ClassId) (f112 : (Nat → Int32)) (cf103 : ClassId) (f103 : (Nat → Int32)) (cf102 : ClassId) (f102 : (Nat → Int32)) (nf : Nat) (r0 : Int32) (w114 : Int32) (hlen : zs.length = 155) (hf102 : zs[102]? = some (.ref qf102)) (hf103 : zs[103]? = some (.ref qf103)) (hf112 : zs[112]? = some (.ref qf112)) (hf113 : zs[113]? = some (.int v113)) (hf114 : zs[114]? = some (.int v114)) (hf115 : zs[115]? = some (.int v115)) (hsp : sp_vm_scanTypes nf a1 v113 v114 v115 f112 f103 f102 = some (r0, w114)) : Met l yX13_scanTypes (.code yX13_scanTypes cX13_scanTypes 5 (some .int) :: VS_h9) ({ frames := 2, cells := 0, slots := 0, locals := 46 }) (va_Pc [.ref h0, .int a1] (fun U => U.heap.size = sz ∧ va_P (dC, dI) vwCl [(h0, .inr (13, zs)), (qf112, .inl (cf112, 6000, .inl f112)), (qf103, .inl (cf103, 8, .inl f103)), (qf102, .inl (cf102, 2048, .inl f102))] U.heap ∧ va_K (dC, dI) vwCl [(cf112, .int), (cf103, .int), (cf102, .int)] U ∧ va_D (fun _ => True) [(h0, .inr (13, zs)), (qf112, .inl (cf112, 6000, .inl f112)), (qf103, .inl (cf103, 8, .inl f103)), (qf102, .inl (cf102, 2048, .inl f102))])) (va_Qi (fun (r : Int32) (u : (List Value)) => match u with | (zo1) => r0 = r ∧ zo1.length = 155 ∧ (∀ j : Nat, j ≠ 114 → zo1[j]? = zs[j]?) ∧ zo1[114]? = some (.int w114)) (fun (u : (List Value)) (t : State) => match u with | (zo1) => va_P (dC, dI) vwCl [(h0, .inr (13, zo1)), (qf112, .inl (cf112, 6000, .inl f112)), (qf103, .inl (cf103, 8, .inl f103)), (qf102, .inl (cf102, 2048, .inl f102))] t.heap ∧ va_K (dC, dI) vwCl [(cf112, .int), (cf103, .int), (cf102, .int)] t ∧ va_D (va_A [(h0, .inr (13, zs)), (qf112, .inl (cf112, 6000, .inl f112)), (qf103, .inl (cf103, 8, .inl f103)), (qf102, .inl (cf102, 2048, .inl f102))] sz) [(h0, .inr (13, zo1)), (qf112, .inl (cf112, 6000, .inl f112)), (qf103, .inl (cf103, 8, .inl f103)), (qf102, .inl (cf102, 2048, .inl f102))]) (va_A [(h0, .inr (13, zs)), (qf112, .inl (cf112, 6000, .inl f112)), (qf103, .inl (cf103, 8, .inl f103)), (qf102, .inl (cf102, 2048, .inl f102))] sz)) 0 0 (va_A [(h0, .inr (13, zs)), (qf112, .inl (cf112, 6000, .inl f112)), (qf103, .inl (cf103, 8, .inl f103)), (qf102, .inl (cf102, 2048, .inl f102))] sz) := by
  refine Met.ofW (cc := cX13_scanTypes) (maxL := 5) (ret := (some .int)) (by decide) rfl ?_
  intro p e s m args below meth c s₁ B hml hv
  obtain ⟨rfl, hsz, hP, hK, hD0⟩ := hv
  have hx := B.exec
  have hb := B.bytes
  have hr := B.returns
  have hts := atoms_spec (ws := (.code yX13_scanTypes cX13_scanTypes 5 (some .int) :: VS_h9)) B.pre
  replace hts := fun w (h : w ∈ VS_h9) => hts w (List.mem_cons_of_mem _ h)
  have hown : s.vm.findClass RX13 = some m.cls := findClass_of_methodNamed B.named
  have hlocks := B.notSynchronized
  subst hsz
  have hD := hD0.self (sz := s.heap.size)
  generalize hAe : va_A [(h0, .inr (13, zs)), (qf112, .inl (cf112, 6000, .inl f112)), (qf103, .inl (cf103, 8, .inl f103)), (qf102, .inl (cf102, 2048, .inl f102))] s.heap.size = A at hD  ⊢
  have hA : ∀ q : Nat, s.heap.size ≤ q → A q := fun q h => by rw [← hAe]; exact Or.inr h
  have hP : va_P (dC, dI) vwCl [(h0, .inr (13, zs)), (qf112, .inl (cf112, 6000, .inl f112)), (qf103, .inl (cf103, 8, .inl f103)), (qf102, .inl (cf102, 2048, .inl f102))] s.heap := hP
  have hl := lv_entry ([.ref h0, .int a1]) (n := 5) (Nat.le_of_ble_eq_true rfl)
  rw [lg_entry_eq]
  generalize (lg_sl ([.ref h0, .int a1]) ++ List.replicate (5 - (lg_sl ([.ref h0, .int a1])).length) Slot.unset).toArray = ls at hl ⊢
  have hl : lv_has ls 5 [(0, .ref h0), (1, .int a1)] := hl
  obtain ⟨H, hH⟩ : ∃ H : Heap, s.heap = H := ⟨_, rfl⟩
  rw [hH] at hP ⊢
  have hS : va_S A s.heap H [] := by rw [← hH]; exact va_S.rf
  obtain ⟨locs, hlo⟩ : ∃ locs : List Loc, locs = [] := ⟨_, rfl⟩
  rw [← hlo] at hS ⊢
  have hrs0 : ∀ j : Nat, j ≠ 114 → zs[j]? = zs[j]? := fun _ _  => rfl
  unfold sp_vm_scanTypes at hsp
  refine lv_aload_n hx hb dX13_scanTypes_0 rfl (lv_at hl 0 rfl) ?_
  refine lv_iload_n hx hb dX13_scanTypes_1 rfl (lv_at hl 1 rfl) ?_
  obtain ⟨⟨u1_0, u1_1⟩, hu_1, hsp⟩ := ox_bind hsp
  try dsimp only at hsp
  have hPc := hP.sub (ws' := [(h0, .inr (13, zs))]) [0] rfl
  have hDc := hD.sub (ws' := [(h0, .inr (13, zs))]) [0] (by decide) rfl
  have hKc := hK.sub (tys' := []) [] rfl
  have hFc := va_free (wc := [(h0, .inr (13, zs))]) hD hS hA [0] rfl
  refine va_calli (va_runV (As := [.int a1]) (rest := []) ⟨hx, hb, hml, hown, hts⟩ (tm_isByte l dC dI H.size h0 zs a1 v113 v114 nf u1_0 u1_1 hlen hf113 hf114 hu_1) (cwV 1 hts gv_h9_47 rfl rfl rfl (by decide +kernel) ⟨Nat.le_of_ble_eq_true rfl, Nat.le_of_ble_eq_true rfl⟩) ⟨fun a U g mk q => by obtain ⟨q0, q1, qP, qK, qD⟩ := q; exact ⟨q0, q1, qP, va_K.moved (u := U) (U := U.calling g mk a) (Vm.Alike.refl U.vm) qK, qD⟩, va_recv hKc hPc (ci := 13) (q0 := 0) rfl rfl, fun U hU hW => ⟨rfl, by rw [hU], by rw [hU]; exact hPc, va_K.moved hW.alike hKc, hDc.weaken (fun _ _ _ _ => trivial)⟩⟩ rfl rfl hl.1 rfl (lv_room (Nat.le_of_ble_eq_true rfl)) dX13_scanTypes_2 ⟨Nat.le_of_ble_eq_true rfl, Nat.le_of_ble_eq_true rfl⟩) hS (fun q _ h => hFc q h) hFc ?_
  clear hS
  intro r_1 u t H1 locs ht hvm hw hB hz1 hk1 hS
  obtain ⟨z_1, rfl⟩ : ∃ z, z = u := ⟨_, rfl⟩
  obtain ⟨hP1, hK1, hD1⟩ := hB
  rw [ht] at hP1
  have hK1 := va_K.moved hvm.symm hK1
  try dsimp only at hw
  have hPD := va_join (wr := [(qf112, .inl (cf112, 6000, .inl f112)), (qf103, .inl (cf103, 8, .inl f103)), (qf102, .inl (cf102, 2048, .inl f102))]) (w1 := [(h0, .inr (13, z_1))]) hP hD [0] [1, 2, 3] rfl rfl (by decide) (by decide) hk1 hFc hP1 hD1
  clear hP hD
  obtain ⟨hP, hD⟩ := hPD
  replace hK := (hK.sub (tys' := [(cf112, .int), (cf103, .int), (cf102, .int)]) [0, 1, 2] rfl).app hK1
  clear hPc hDc hKc hFc hP1 hK1 hD1 hz1 hk1 ht hvm
  generalize H1 = H at hP hS ⊢
  replace hP : va_P (dC, dI) vwCl [(qf112, .inl (cf112, 6000, .inl f112)), (qf103, .inl (cf103, 8, .inl f103)), (qf102, .inl (cf102, 2048, .inl f102)), (h0, .inr (13, z_1))] H := hP
  replace hD : va_D A [(qf112, .inl (cf112, 6000, .inl f112)), (qf103, .inl (cf103, 8, .inl f103)), (qf102, .inl (cf102, 2048, .inl f102)), (h0, .inr (13, z_1))] := hD
  replace hK : va_K (dC, dI) vwCl [(cf112, .int), (cf103, .int), (cf102, .int)] s := hK
  obtain ⟨hwa_1, hln_1, hre_1, hch_1_114⟩ := hw
  have hfk_1_102 : z_1[102]? = some (.ref qf102) := (hre_1 102 (by decide)).trans (hf102)
  have hfk_1_103 : z_1[103]? = some (.ref qf103) := (hre_1 103 (by decide)).trans (hf103)
  have hfk_1_112 : z_1[112]? = some (.ref qf112) := (hre_1 112 (by decide)).trans (hf112)
  have hfk_1_113 : z_1[113]? = some (.int v113) := (hre_1 113 (by decide)).trans (hf113)
  have hfk_1_115 : z_1[115]? = some (.int v115) := (hre_1 115 (by decide)).trans (hf115)
  have hrq_1 : ∀ j : Nat, j ≠ 114 → z_1[j]? = zs[j]? := fun j g114 => (hre_1 j g114).trans (hrs0 j g114)
  obtain ⟨rfl, hz_1⟩ := hwa_1
  rcases hz_1 with rfl | rfl
  · rw [if_pos rfl] at hsp
    refine lv_if_ne (tgt := 10) hx hb dX13_scanTypes_5 (by decide) (fun c_2 => (show False by revert c_2; decide).elim) (fun c_2 => ?_)
    refine lv_iload_n hx hb dX13_scanTypes_8 rfl (lv_at hl 1 rfl) ?_
    have hr0 := Option.some.inj hsp
    clear hsp
    obtain ⟨hq0, hr1⟩ := Prod.mk.inj hr0
    clear hr0
    subst hq0
    subst hr1
    have hP9 := hP.sub (ws' := [(h0, .inr (13, z_1)), (qf112, .inl (cf112, 6000, .inl f112)), (qf103, .inl (cf103, 8, .inl f103)), (qf102, .inl (cf102, 2048, .inl f102))]) [3, 0, 1, 2] rfl
    have hD9 := hD.sub (ws' := [(h0, .inr (13, z_1)), (qf112, .inl (cf112, 6000, .inl f112)), (qf103, .inl (cf103, 8, .inl f103)), (qf102, .inl (cf102, 2048, .inl f102))]) [3, 0, 1, 2] (by decide) rfl
    have hK9 := hK.sub (tys' := [(cf112, .int), (cf103, .int), (cf102, .int)]) [0, 1, 2] rfl
    exact W.iret hx hb hr (fun t ht hW => ⟨⟨(a1), (z_1), rfl, ⟨rfl, hln_1, hrq_1, hch_1_114⟩, by rw [ht]; exact hP9, va_K.moved hW.alike hK9, hD9⟩, hS.F ht⟩) hS.2.2 dX13_scanTypes_9
  · rw [if_neg (by decide)] at hsp
    refine lv_if_ne (tgt := 10) hx hb dX13_scanTypes_5 (by decide) (fun c_3 => ?_) (fun c_3 => (show False by revert c_3; decide).elim)
    refine lv_aload_n hx hb dX13_scanTypes_10 rfl (lv_at hl 0 rfl) ?_
    refine va_get (D := (dC, dI)) (ci := 13) (v := .ref qf112) (C := RX13) (T := TX13) (N := 155) hx hb hts uV_h9_X13 hown hK hP 3 rfl rfl 112 (by decide) (hts (.fieldLink RX13 245 "ClassMillModel" "look" "[I") mw_h9_242) (fun _ h9 => h9) hfk_1_112 dX13_scanTypes_11 ?_
    refine lv_iload_n hx hb dX13_scanTypes_14 rfl (lv_at hl 1 rfl) ?_
    obtain ⟨hi_4, hsp⟩ := ox_in hsp
    refine va_iald hx hb hK hP 0 0 rfl rfl (i := a1) hi_4 dX13_scanTypes_15 ?_
    refine lv_istore_n (lv' := [(2, .int (f112 (a1 : Int32).toNatClampNeg)), (0, .ref h0), (1, .int a1)]) hx hb dX13_scanTypes_16 rfl hl (by decide) rfl (fun ls hl => ?_)
    refine lv_iload_n hx hb dX13_scanTypes_17 rfl (lv_at hl 2 rfl) ?_
    refine lv_iconst (v := 1) hx hb dX13_scanTypes_18 (by decide) ?_
    refine lv_iadd hx hb dX13_scanTypes_19 ?_
    refine lv_istore_n (lv' := [(3, .int (a1 + 1)), (2, .int (f112 (a1 : Int32).toNatClampNeg)), (0, .ref h0), (1, .int a1)]) hx hb dX13_scanTypes_20 rfl hl (by decide) rfl (fun ls hl => ?_)
    refine lv_iconst (v := 0) hx hb dX13_scanTypes_21 (by decide) ?_
    refine lv_istore (lv' := [(4, .int 0), (3, .int (a1 + 1)), (2, .int (f112 (a1 : Int32).toNatClampNeg)), (0, .ref h0), (1, .int a1)]) hx hb dX13_scanTypes_22 hl (by decide) rfl (fun ls hl => ?_)
    replace hl : lv_has ls 5 [(4, .int 0), (3, .int (a1 + 1)), (2, .int (f112 (a1 : Int32).toNatClampNeg)), (0, .ref h0)] := lv_sub hl [0, 1, 2, 3] rfl
    replace hP := hP.sub (ws' := [(h0, .inr (13, z_1)), (qf112, .inl (cf112, 6000, .inl f112)), (qf103, .inl (cf103, 8, .inl f103)), (qf102, .inl (cf102, 2048, .inl f102))]) [3, 0, 1, 2] rfl
    replace hD := hD.sub (ws' := [(h0, .inr (13, z_1)), (qf112, .inl (cf112, 6000, .inl f112)), (qf103, .inl (cf103, 8, .inl f103)), (qf102, .inl (cf102, 2048, .inl f102))]) [3, 0, 1, 2] (by decide) rfl
    replace hK := hK.sub (tys' := [(cf112, .int), (cf103, .int), (cf102, .int)]) [0, 1, 2] rfl
    obtain ⟨n_24, hn_24⟩ : ∃ z : Nat, z = nf := ⟨_, rfl⟩
    obtain ⟨l2_24, el2_24⟩ : ∃ z : Int32, z = (f112 (a1 : Int32).toNatClampNeg) := ⟨_, rfl⟩
    obtain ⟨l3_24, el3_24⟩ : ∃ z : Int32, z = (a1 + 1) := ⟨_, rfl⟩
    obtain ⟨l4_24, el4_24⟩ : ∃ z : Int32, z = 0 := ⟨_, rfl⟩
    obtain ⟨x114_24, ex114_24⟩ : ∃ z : Int32, z = u1_1 := ⟨_, rfl⟩
    replace hsp : lp_vm_scanTypes_24 nf n_24 a1 v113 v114 v115 f112 f103 f102 l2_24 l3_24 l4_24 x114_24 = some (r0, w114) := by rw [hn_24, el2_24, el3_24, el4_24, ex114_24]; exact hsp
    replace hl : lv_has ls 5 [(4, .int l4_24), (3, .int l3_24), (2, .int l2_24), (0, .ref h0)] := by rw [el2_24, el3_24, el4_24]; exact hl
    obtain ⟨z24, ez24⟩ : ∃ z : List Value, z = z_1 := ⟨_, rfl⟩
    have hfh_24_102 : z24[102]? = some (.ref qf102) := by rw [ez24]; exact hfk_1_102
    have hfh_24_103 : z24[103]? = some (.ref qf103) := by rw [ez24]; exact hfk_1_103
    have hfh_24_112 : z24[112]? = some (.ref qf112) := by rw [ez24]; exact hfk_1_112
    have hfh_24_113 : z24[113]? = some (.int v113) := by rw [ez24]; exact hfk_1_113
    have hfh_24_114 : z24[114]? = some (.int x114_24) := by rw [ez24, ex114_24]; exact hch_1_114
    have hfh_24_115 : z24[115]? = some (.int v115) := by rw [ez24]; exact hfk_1_115
    have hlh_24 : z24.length = 155 := by rw [ez24]; exact hln_1
    have hrh_24 : ∀ j : Nat, j ≠ 114 → z24[j]? = zs[j]? := by rw [ez24]; exact hrq_1
    replace hP : va_P (dC, dI) vwCl [(h0, .inr (13, z24)), (qf112, .inl (cf112, 6000, .inl f112)), (qf103, .inl (cf103, 8, .inl f103)), (qf102, .inl (cf102, 2048, .inl f102))] H := by rw [ez24]; exact hP
    replace hD : va_D A [(h0, .inr (13, z24)), (qf112, .inl (cf112, 6000, .inl f112)), (qf103, .inl (cf103, 8, .inl f103)), (qf102, .inl (cf102, 2048, .inl f102))] := by rw [ez24]; exact hD
    clear hn_24 ez24 el2_24 el3_24 el4_24 ex114_24
    try clear hlo
    try clear hH
    revert hsp
    revert hP
    revert hD
    revert hS
    revert hl
    revert hrh_24
    revert hlh_24
    revert hfh_24_115
    revert hfh_24_114
    revert hfh_24_113
    revert hfh_24_112
    revert hfh_24_103
    revert hfh_24_102
    revert x114_24
    revert l4_24
    revert l3_24
    revert l2_24
    revert z24
    revert ls
    revert locs
    revert H
    induction n_24 with
    | zero => intro H locs ls z24 l2_24 l3_24 l4_24 x114_24 hfh_24_102 hfh_24_103 hfh_24_112 hfh_24_113 hfh_24_114 hfh_24_115 hlh_24 hrh_24 hl hS hD hP hsp; unfold lp_vm_scanTypes_24 at hsp; cases hsp
    | succ n_24 ih_24 =>
      intro H locs ls z24 l2_24 l3_24 l4_24 x114_24 hfh_24_102 hfh_24_103 hfh_24_112 hfh_24_113 hfh_24_114 hfh_24_115 hlh_24 hrh_24 hl hS hD hP hsp
      unfold lp_vm_scanTypes_24 at hsp
      try dsimp only at hsp
      refine jn_use (α := Heap × List Loc × Array Slot × List Value × Int32 × Int32 × Int32 × Int32) (fun x9 => x9.1) (fun x9 => x9.2.1) (fun x9 => F0 m 55 x9.2.2.1 []) (fun x9 => match x9 with | (H, locs, ls, z55, l2_55, l3_55, l4_55, x114_55) => lv_has ls 5 [(0, .ref h0), (2, .int l2_55), (3, .int l3_55), (4, .int l4_55)] ∧ va_S A s.heap H locs ∧ va_D A [(h0, .inr (13, z55)), (qf112, .inl (cf112, 6000, .inl f112)), (qf103, .inl (cf103, 8, .inl f103)), (qf102, .inl (cf102, 2048, .inl f102))] ∧ va_P (dC, dI) vwCl [(h0, .inr (13, z55)), (qf112, .inl (cf112, 6000, .inl f112)), (qf103, .inl (cf103, 8, .inl f103)), (qf102, .inl (cf102, 2048, .inl f102))] H ∧ z55[102]? = some (.ref qf102) ∧ z55[103]? = some (.ref qf103) ∧ z55[112]? = some (.ref qf112) ∧ z55[113]? = some (.int v113) ∧ z55[114]? = some (.int x114_55) ∧ z55[115]? = some (.int v115) ∧ z55.length = 155 ∧ (∀ j : Nat, j ≠ 114 → z55[j]? = zs[j]?) ∧ jn_vm_scanTypes_55 nf a1 v113 v114 v115 f112 f103 f102 (lp_vm_scanTypes_24 nf n_24 a1 v113 v114 v115 f112 f103 f102) l2_55 l3_55 l4_55 x114_55 = some (r0, w114)) ?_ ?_
      · intro x9 hJ9
        obtain ⟨H, locs, ls, z55, l2_55, l3_55, l4_55, x114_55⟩ := x9
        obtain ⟨hl, hS, hD, hP, hfh_55_102, hfh_55_103, hfh_55_112, hfh_55_113, hfh_55_114, hfh_55_115, hlh_55, hrh_55, hsp⟩ := hJ9
        replace hl : lv_has ls 5 [(0, .ref h0), (2, .int l2_55), (3, .int l3_55), (4, .int l4_55)] := hl
        replace hS : va_S A s.heap H locs := hS
        replace hD : va_D A [(h0, .inr (13, z55)), (qf112, .inl (cf112, 6000, .inl f112)), (qf103, .inl (cf103, 8, .inl f103)), (qf102, .inl (cf102, 2048, .inl f102))] := hD
        replace hP : va_P (dC, dI) vwCl [(h0, .inr (13, z55)), (qf112, .inl (cf112, 6000, .inl f112)), (qf103, .inl (cf103, 8, .inl f103)), (qf102, .inl (cf102, 2048, .inl f102))] H := hP
        replace hsp : jn_vm_scanTypes_55 nf a1 v113 v114 v115 f112 f103 f102 (lp_vm_scanTypes_24 nf n_24 a1 v113 v114 v115 f112 f103 f102) l2_55 l3_55 l4_55 x114_55 = some (r0, w114) := hsp
        show W _ _ _ _ _ _ _ _ _ _ H locs _ _ _ (F0 m 55 ls [])
        unfold jn_vm_scanTypes_55 at hsp
        try dsimp only at hsp
        refine lv_aload_n hx hb dX13_scanTypes_55 rfl (lv_at hl 0 rfl) ?_
        refine va_get (D := (dC, dI)) (ci := 13) (v := .ref qf112) (C := RX13) (T := TX13) (N := 155) hx hb hts uV_h9_X13 hown hK hP 0 rfl rfl 112 (by decide) (hts (.fieldLink RX13 245 "ClassMillModel" "look" "[I") mw_h9_242) (fun _ h9 => h9) hfh_55_112 dX13_scanTypes_56 ?_
        refine lv_iload_n hx hb dX13_scanTypes_59 rfl (lv_at hl 2 rfl) ?_
        obtain ⟨hi_11, hsp⟩ := ox_in hsp
        refine va_iald hx hb hK hP 1 0 rfl rfl (i := l3_55) hi_11 dX13_scanTypes_60 ?_
        refine lv_iconst (v := 3) hx hb dX13_scanTypes_61 (by decide) ?_
        refine lv_icmp_ne (tgt := 95) hx hb dX13_scanTypes_62 (by decide) (fun c_12 => ?_) (fun c_12 => ?_)
        · rw [if_neg c_12] at hsp
          refine lv_iinc (v := (l3_55 + 1)) (lv' := [(3, .int (l3_55 + 1)), (0, .ref h0), (2, .int l2_55), (4, .int l4_55)]) hx hb dX13_scanTypes_95 hl (k := 2) rfl rfl (by decide) rfl (fun ls hl => ?_)
          refine lv_iinc (v := (l4_55 + 1)) (lv' := [(4, .int (l4_55 + 1)), (3, .int (l3_55 + 1)), (0, .ref h0), (2, .int l2_55)]) hx hb dX13_scanTypes_98 hl (k := 3) rfl rfl (by decide) rfl (fun ls hl => ?_)
          refine lv_goto (tgt := 24) hx hb dX13_scanTypes_101 (by decide) ?_
          exact ih_24 H locs ls z55 l2_55 (l3_55 + 1) (l4_55 + 1) x114_55 (hfh_55_102) (hfh_55_103) (hfh_55_112) (hfh_55_113) (hfh_55_114) (hfh_55_115) hlh_55 hrh_55 (lv_sub hl [0, 1, 3, 2] rfl) hS (hD.sub (ws' := [(h0, .inr (13, z55)), (qf112, .inl (cf112, 6000, .inl f112)), (qf103, .inl (cf103, 8, .inl f103)), (qf102, .inl (cf102, 2048, .inl f102))]) [0, 1, 2, 3] (by decide) rfl) (hP.sub (ws' := [(h0, .inr (13, z55)), (qf112, .inl (cf112, 6000, .inl f112)), (qf103, .inl (cf103, 8, .inl f103)), (qf102, .inl (cf102, 2048, .inl f102))]) [0, 1, 2, 3] rfl) hsp
        · rw [if_pos c_12] at hsp
          refine lv_iinc (v := (l3_55 + 1)) (lv' := [(3, .int (l3_55 + 1)), (0, .ref h0), (2, .int l2_55), (4, .int l4_55)]) hx hb dX13_scanTypes_65 hl (k := 2) rfl rfl (by decide) rfl (fun ls hl => ?_)
          refine lv_aload_n hx hb dX13_scanTypes_68 rfl (lv_at hl 1 rfl) ?_
          refine lv_iload_n hx hb dX13_scanTypes_69 rfl (lv_at hl 0 rfl) ?_
          obtain ⟨⟨u4_0, u4_1⟩, hu_4, hsp⟩ := ox_bind hsp
          try dsimp only at hsp
          have hPc := hP.sub (ws' := [(h0, .inr (13, z55))]) [0] rfl
          have hDc := hD.sub (ws' := [(h0, .inr (13, z55))]) [0] (by decide) rfl
          have hKc := hK.sub (tys' := []) [] rfl
          have hFc := va_free (wc := [(h0, .inr (13, z55))]) hD hS hA [0] rfl
          refine va_calli (va_runV (As := [.int (l3_55 + 1)]) (rest := []) ⟨hx, hb, hml, hown, hts⟩ (tm_isByte l dC dI H.size h0 z55 ((l3_55 + 1)) v113 x114_55 nf u4_0 u4_1 hlh_55 hfh_55_113 hfh_55_114 hu_4) (cwV 1 hts gv_h9_47 rfl rfl rfl (by decide +kernel) ⟨Nat.le_of_ble_eq_true rfl, Nat.le_of_ble_eq_true rfl⟩) ⟨fun a U g mk q => by obtain ⟨q0, q1, qP, qK, qD⟩ := q; exact ⟨q0, q1, qP, va_K.moved (u := U) (U := U.calling g mk a) (Vm.Alike.refl U.vm) qK, qD⟩, va_recv hKc hPc (ci := 13) (q0 := 0) rfl rfl, fun U hU hW => ⟨rfl, by rw [hU], by rw [hU]; exact hPc, va_K.moved hW.alike hKc, hDc.weaken (fun _ _ _ _ => trivial)⟩⟩ rfl rfl hl.1 rfl (lv_room (Nat.le_of_ble_eq_true rfl)) dX13_scanTypes_70 ⟨Nat.le_of_ble_eq_true rfl, Nat.le_of_ble_eq_true rfl⟩) hS (fun q _ h => hFc q h) hFc ?_
          clear hS
          intro r_13 u t H1 locs ht hvm hw hB hz1 hk1 hS
          obtain ⟨z_4, rfl⟩ : ∃ z, z = u := ⟨_, rfl⟩
          obtain ⟨hP1, hK1, hD1⟩ := hB
          rw [ht] at hP1
          have hK1 := va_K.moved hvm.symm hK1
          try dsimp only at hw
          have hPD := va_join (wr := [(qf112, .inl (cf112, 6000, .inl f112)), (qf103, .inl (cf103, 8, .inl f103)), (qf102, .inl (cf102, 2048, .inl f102))]) (w1 := [(h0, .inr (13, z_4))]) hP hD [0] [1, 2, 3] rfl rfl (by decide) (by decide) hk1 hFc hP1 hD1
          clear hP hD
          obtain ⟨hP, hD⟩ := hPD
          replace hK := (hK.sub (tys' := [(cf112, .int), (cf103, .int), (cf102, .int)]) [0, 1, 2] rfl).app hK1
          clear hPc hDc hKc hFc hP1 hK1 hD1 hz1 hk1 ht hvm
          generalize H1 = H at hP hS ⊢
          replace hP : va_P (dC, dI) vwCl [(qf112, .inl (cf112, 6000, .inl f112)), (qf103, .inl (cf103, 8, .inl f103)), (qf102, .inl (cf102, 2048, .inl f102)), (h0, .inr (13, z_4))] H := hP
          replace hD : va_D A [(qf112, .inl (cf112, 6000, .inl f112)), (qf103, .inl (cf103, 8, .inl f103)), (qf102, .inl (cf102, 2048, .inl f102)), (h0, .inr (13, z_4))] := hD
          replace hK : va_K (dC, dI) vwCl [(cf112, .int), (cf103, .int), (cf102, .int)] s := hK
          obtain ⟨hwa_4, hln_4, hre_4, hch_4_114⟩ := hw
          have hfk_4_102 : z_4[102]? = some (.ref qf102) := (hre_4 102 (by decide)).trans (hfh_55_102)
          have hfk_4_103 : z_4[103]? = some (.ref qf103) := (hre_4 103 (by decide)).trans (hfh_55_103)
          have hfk_4_112 : z_4[112]? = some (.ref qf112) := (hre_4 112 (by decide)).trans (hfh_55_112)
          have hfk_4_113 : z_4[113]? = some (.int v113) := (hre_4 113 (by decide)).trans (hfh_55_113)
          have hfk_4_115 : z_4[115]? = some (.int v115) := (hre_4 115 (by decide)).trans (hfh_55_115)
          have hrq_4 : ∀ j : Nat, j ≠ 114 → z_4[j]? = zs[j]? := fun j g114 => (hre_4 j g114).trans (hrh_55 j g114)
          obtain ⟨rfl, hz_4⟩ := hwa_4
          rcases hz_4 with rfl | rfl
          · rw [if_pos rfl] at hsp
            refine lv_if_eq (tgt := 95) hx hb dX13_scanTypes_73 (by decide) (fun c_14 => ?_) (fun c_14 => (show False by revert c_14; decide).elim)
            refine lv_iinc (v := ((l3_55 + 1) + 1)) (lv' := [(3, .int ((l3_55 + 1) + 1)), (0, .ref h0), (2, .int l2_55), (4, .int l4_55)]) hx hb dX13_scanTypes_95 hl (k := 0) rfl rfl (by decide) rfl (fun ls hl => ?_)
            refine lv_iinc (v := (l4_55 + 1)) (lv' := [(4, .int (l4_55 + 1)), (3, .int ((l3_55 + 1) + 1)), (0, .ref h0), (2, .int l2_55)]) hx hb dX13_scanTypes_98 hl (k := 3) rfl rfl (by decide) rfl (fun ls hl => ?_)
            refine lv_goto (tgt := 24) hx hb dX13_scanTypes_101 (by decide) ?_
            exact ih_24 H locs ls z_4 l2_55 ((l3_55 + 1) + 1) (l4_55 + 1) u4_1 (hfk_4_102) (hfk_4_103) (hfk_4_112) (hfk_4_113) (hch_4_114) (hfk_4_115) hln_4 hrq_4 (lv_sub hl [0, 1, 3, 2] rfl) hS (hD.sub (ws' := [(h0, .inr (13, z_4)), (qf112, .inl (cf112, 6000, .inl f112)), (qf103, .inl (cf103, 8, .inl f103)), (qf102, .inl (cf102, 2048, .inl f102))]) [3, 0, 1, 2] (by decide) rfl) (hP.sub (ws' := [(h0, .inr (13, z_4)), (qf112, .inl (cf112, 6000, .inl f112)), (qf103, .inl (cf103, 8, .inl f103)), (qf102, .inl (cf102, 2048, .inl f102))]) [3, 0, 1, 2] rfl) hsp
          · rw [if_neg (by decide)] at hsp
            refine lv_if_eq (tgt := 95) hx hb dX13_scanTypes_73 (by decide) (fun c_15 => (show False by revert c_15; decide).elim) (fun c_15 => ?_)
            refine lv_aload_n hx hb dX13_scanTypes_76 rfl (lv_at hl 1 rfl) ?_
            refine lv_aload_n hx hb dX13_scanTypes_77 rfl (lv_at hl 1 rfl) ?_
            refine va_get (D := (dC, dI)) (ci := 13) (v := .ref qf112) (C := RX13) (T := TX13) (N := 155) hx hb hts uV_h9_X13 hown hK hP 3 rfl rfl 112 (by decide) (hts (.fieldLink RX13 245 "ClassMillModel" "look" "[I") mw_h9_242) (fun _ h9 => h9) hfk_4_112 dX13_scanTypes_78 ?_
            refine lv_iload_n hx hb dX13_scanTypes_81 rfl (lv_at hl 0 rfl) ?_
            obtain ⟨hi_16, hsp⟩ := ox_in hsp
            refine va_iald hx hb hK hP 0 0 rfl rfl (i := (l3_55 + 1)) hi_16 dX13_scanTypes_82 ?_
            refine lv_iconst (v := 1) hx hb dX13_scanTypes_83 (by decide) ?_
            obtain ⟨u5_0, hu_5, hsp⟩ := ox_bind hsp
            try dsimp only at hsp
            have hPc := hP.sub (ws' := [(h0, .inr (13, z_4)), (qf103, .inl (cf103, 8, .inl f103)), (qf102, .inl (cf102, 2048, .inl f102)), (qf112, .inl (cf112, 6000, .inl f112))]) [3, 1, 2, 0] rfl
            have hDc := hD.sub (ws' := [(h0, .inr (13, z_4)), (qf103, .inl (cf103, 8, .inl f103)), (qf102, .inl (cf102, 2048, .inl f102)), (qf112, .inl (cf112, 6000, .inl f112))]) [3, 1, 2, 0] (by decide) rfl
            have hKc := hK.sub (tys' := [(cf103, .int), (cf102, .int), (cf112, .int)]) [1, 2, 0] rfl
            have hFc := va_free (wc := [(h0, .inr (13, z_4)), (qf103, .inl (cf103, 8, .inl f103)), (qf102, .inl (cf102, 2048, .inl f102)), (qf112, .inl (cf112, 6000, .inl f112))]) hD hS hA [3, 1, 2, 0] rfl
            refine va_calli (va_runV (As := [.int (f112 ((l3_55 + 1) : Int32).toNatClampNeg), .int 1]) (rest := []) ⟨hx, hb, hml, hown, hts⟩ (tn_isClassConstant l dC dI H.size h0 z_4 ((f112 ((l3_55 + 1) : Int32).toNatClampNeg)) 1 qf102 qf103 qf112 v115 cf103 f103 cf102 f102 cf112 f112 nf u5_0 hln_4 hfk_4_102 hfk_4_103 hfk_4_112 hfk_4_115 hu_5) (cwV 2 hts gv_h9_51 rfl rfl rfl (by decide +kernel) ⟨Nat.le_of_ble_eq_true rfl, Nat.le_of_ble_eq_true rfl⟩) ⟨fun a U g mk q => by obtain ⟨q0, q1, qP, qK, qD⟩ := q; exact ⟨q0, q1, qP, va_K.moved (u := U) (U := U.calling g mk a) (Vm.Alike.refl U.vm) qK, qD⟩, va_recv hKc hPc (ci := 13) (q0 := 0) rfl rfl, fun U hU hW => ⟨rfl, by rw [hU], by rw [hU]; exact hPc, va_K.moved hW.alike hKc, hDc.weaken (fun _ _ _ _ => trivial)⟩⟩ rfl rfl hl.1 rfl (lv_room (Nat.le_of_ble_eq_true rfl)) dX13_scanTypes_84 ⟨Nat.le_of_ble_eq_true rfl, Nat.le_of_ble_eq_true rfl⟩) hS (fun q _ h => hFc q h) hFc ?_
            clear hS
            intro r_17 u t H1 locs ht hvm hw hB hz1 hk1 hS
            obtain ⟨z_5, rfl⟩ : ∃ z, z = u := ⟨_, rfl⟩
            obtain ⟨hP1, hK1, hD1⟩ := hB
            rw [ht] at hP1
            have hK1 := va_K.moved hvm.symm hK1
            try dsimp only at hw
            have hPD := va_join (wr := []) (w1 := [(h0, .inr (13, z_5)), (qf103, .inl (cf103, 8, .inl f103)), (qf102, .inl (cf102, 2048, .inl f102)), (qf112, .inl (cf112, 6000, .inl f112))]) hP hD [3, 1, 2, 0] [] rfl rfl (by decide) (by decide) hk1 hFc hP1 hD1
            clear hP hD
            obtain ⟨hP, hD⟩ := hPD
            replace hK := (hK.sub (tys' := []) [] rfl).app hK1
            clear hPc hDc hKc hFc hP1 hK1 hD1 hz1 hk1 ht hvm
            generalize H1 = H at hP hS ⊢
            replace hP : va_P (dC, dI) vwCl [(h0, .inr (13, z_5)), (qf103, .inl (cf103, 8, .inl f103)), (qf102, .inl (cf102, 2048, .inl f102)), (qf112, .inl (cf112, 6000, .inl f112))] H := hP
            replace hD : va_D A [(h0, .inr (13, z_5)), (qf103, .inl (cf103, 8, .inl f103)), (qf102, .inl (cf102, 2048, .inl f102)), (qf112, .inl (cf112, 6000, .inl f112))] := hD
            replace hK : va_K (dC, dI) vwCl [(cf103, .int), (cf102, .int), (cf112, .int)] s := hK
            obtain ⟨hwa_5, hln_5, hre_5⟩ := hw
            have hfk_5_102 : z_5[102]? = some (.ref qf102) := (hre_5 102 ).trans (hfk_4_102)
            have hfk_5_103 : z_5[103]? = some (.ref qf103) := (hre_5 103 ).trans (hfk_4_103)
            have hfk_5_112 : z_5[112]? = some (.ref qf112) := (hre_5 112 ).trans (hfk_4_112)
            have hfk_5_113 : z_5[113]? = some (.int v113) := (hre_5 113 ).trans (hfk_4_113)
            have hfk_5_114 : z_5[114]? = some (.int u4_1) := (hre_5 114 ).trans (hch_4_114)
            have hfk_5_115 : z_5[115]? = some (.int v115) := (hre_5 115 ).trans (hfk_4_115)
            have hrq_5 : ∀ j : Nat, j ≠ 114 → z_5[j]? = zs[j]? := fun j g114 => (hre_5 j ).trans (hrq_4 j g114)
            obtain ⟨rfl, hz_5⟩ := hwa_5
            rcases hz_5 with rfl | rfl
            · rw [if_pos rfl] at hsp
              refine lv_if_ne (tgt := 95) hx hb dX13_scanTypes_87 (by decide) (fun c_18 => (show False by revert c_18; decide).elim) (fun c_18 => ?_)
              refine lv_aload_n hx hb dX13_scanTypes_90 rfl (lv_at hl 1 rfl) ?_
              refine lv_iload_n hx hb dX13_scanTypes_91 rfl (lv_at hl 0 rfl) ?_
              obtain ⟨u6_0, hu_6, hsp⟩ := ox_bind hsp
              try dsimp only at hsp
              have hPc := hP.sub (ws' := [(h0, .inr (13, z_5))]) [0] rfl
              have hDc := hD.sub (ws' := [(h0, .inr (13, z_5))]) [0] (by decide) rfl
              have hKc := hK.sub (tys' := []) [] rfl
              have hFc := va_free (wc := [(h0, .inr (13, z_5))]) hD hS hA [0] rfl
              refine va_callv (va_runV (As := [.int (l3_55 + 1)]) (rest := []) ⟨hx, hb, hml, hown, hts⟩ (tm_unfit l dC dI H.size h0 z_5 ((l3_55 + 1)) u4_1 nf u6_0 hln_5 hfk_5_114 hu_6) (cwV 1 hts gv_h9_48 rfl rfl rfl (by decide +kernel) ⟨Nat.le_of_ble_eq_true rfl, Nat.le_of_ble_eq_true rfl⟩) ⟨fun a U g mk q => by obtain ⟨q0, q1, qP, qK, qD⟩ := q; exact ⟨q0, q1, qP, va_K.moved (u := U) (U := U.calling g mk a) (Vm.Alike.refl U.vm) qK, qD⟩, va_recv hKc hPc (ci := 13) (q0 := 0) rfl rfl, fun U hU hW => ⟨rfl, by rw [hU], by rw [hU]; exact hPc, va_K.moved hW.alike hKc, hDc.weaken (fun _ _ _ _ => trivial)⟩⟩ rfl rfl hl.1 rfl (lv_room (Nat.le_of_ble_eq_true rfl)) dX13_scanTypes_92 ⟨Nat.le_of_ble_eq_true rfl, Nat.le_of_ble_eq_true rfl⟩) hS (fun q _ h => hFc q h) hFc ?_
              clear hS
              intro u t H1 locs ht hvm hw hB hz1 hk1 hS
              obtain ⟨z_6, rfl⟩ : ∃ z, z = u := ⟨_, rfl⟩
              obtain ⟨hP1, hK1, hD1⟩ := hB
              rw [ht] at hP1
              have hK1 := va_K.moved hvm.symm hK1
              try dsimp only at hw
              have hPD := va_join (wr := [(qf103, .inl (cf103, 8, .inl f103)), (qf102, .inl (cf102, 2048, .inl f102)), (qf112, .inl (cf112, 6000, .inl f112))]) (w1 := [(h0, .inr (13, z_6))]) hP hD [0] [1, 2, 3] rfl rfl (by decide) (by decide) hk1 hFc hP1 hD1
              clear hP hD
              obtain ⟨hP, hD⟩ := hPD
              replace hK := (hK.sub (tys' := [(cf103, .int), (cf102, .int), (cf112, .int)]) [0, 1, 2] rfl).app hK1
              clear hPc hDc hKc hFc hP1 hK1 hD1 hz1 hk1 ht hvm
              generalize H1 = H at hP hS ⊢
              replace hP : va_P (dC, dI) vwCl [(qf103, .inl (cf103, 8, .inl f103)), (qf102, .inl (cf102, 2048, .inl f102)), (qf112, .inl (cf112, 6000, .inl f112)), (h0, .inr (13, z_6))] H := hP
              replace hD : va_D A [(qf103, .inl (cf103, 8, .inl f103)), (qf102, .inl (cf102, 2048, .inl f102)), (qf112, .inl (cf112, 6000, .inl f112)), (h0, .inr (13, z_6))] := hD
              replace hK : va_K (dC, dI) vwCl [(cf103, .int), (cf102, .int), (cf112, .int)] s := hK
              obtain ⟨hwa_6, hln_6, hre_6, hch_6_114⟩ := hw
              have hfk_6_102 : z_6[102]? = some (.ref qf102) := (hre_6 102 (by decide)).trans (hfk_5_102)
              have hfk_6_103 : z_6[103]? = some (.ref qf103) := (hre_6 103 (by decide)).trans (hfk_5_103)
              have hfk_6_112 : z_6[112]? = some (.ref qf112) := (hre_6 112 (by decide)).trans (hfk_5_112)
              have hfk_6_113 : z_6[113]? = some (.int v113) := (hre_6 113 (by decide)).trans (hfk_5_113)
              have hfk_6_115 : z_6[115]? = some (.int v115) := (hre_6 115 (by decide)).trans (hfk_5_115)
              have hrq_6 : ∀ j : Nat, j ≠ 114 → z_6[j]? = zs[j]? := fun j g114 => (hre_6 j g114).trans (hrq_5 j g114)
              refine lv_iinc (v := ((l3_55 + 1) + 1)) (lv' := [(3, .int ((l3_55 + 1) + 1)), (0, .ref h0), (2, .int l2_55), (4, .int l4_55)]) hx hb dX13_scanTypes_95 hl (k := 0) rfl rfl (by decide) rfl (fun ls hl => ?_)
              refine lv_iinc (v := (l4_55 + 1)) (lv' := [(4, .int (l4_55 + 1)), (3, .int ((l3_55 + 1) + 1)), (0, .ref h0), (2, .int l2_55)]) hx hb dX13_scanTypes_98 hl (k := 3) rfl rfl (by decide) rfl (fun ls hl => ?_)
              refine lv_goto (tgt := 24) hx hb dX13_scanTypes_101 (by decide) ?_
              exact ih_24 H locs ls z_6 l2_55 ((l3_55 + 1) + 1) (l4_55 + 1) u6_0 (hfk_6_102) (hfk_6_103) (hfk_6_112) (hfk_6_113) (hch_6_114) (hfk_6_115) hln_6 hrq_6 (lv_sub hl [0, 1, 3, 2] rfl) hS (hD.sub (ws' := [(h0, .inr (13, z_6)), (qf112, .inl (cf112, 6000, .inl f112)), (qf103, .inl (cf103, 8, .inl f103)), (qf102, .inl (cf102, 2048, .inl f102))]) [3, 2, 0, 1] (by decide) rfl) (hP.sub (ws' := [(h0, .inr (13, z_6)), (qf112, .inl (cf112, 6000, .inl f112)), (qf103, .inl (cf103, 8, .inl f103)), (qf102, .inl (cf102, 2048, .inl f102))]) [3, 2, 0, 1] rfl) hsp
            · rw [if_neg (by decide)] at hsp
              refine lv_if_ne (tgt := 95) hx hb dX13_scanTypes_87 (by decide) (fun c_19 => ?_) (fun c_19 => (show False by revert c_19; decide).elim)
              refine lv_iinc (v := ((l3_55 + 1) + 1)) (lv' := [(3, .int ((l3_55 + 1) + 1)), (0, .ref h0), (2, .int l2_55), (4, .int l4_55)]) hx hb dX13_scanTypes_95 hl (k := 0) rfl rfl (by decide) rfl (fun ls hl => ?_)
              refine lv_iinc (v := (l4_55 + 1)) (lv' := [(4, .int (l4_55 + 1)), (3, .int ((l3_55 + 1) + 1)), (0, .ref h0), (2, .int l2_55)]) hx hb dX13_scanTypes_98 hl (k := 3) rfl rfl (by decide) rfl (fun ls hl => ?_)
              refine lv_goto (tgt := 24) hx hb dX13_scanTypes_101 (by decide) ?_
              exact ih_24 H locs ls z_5 l2_55 ((l3_55 + 1) + 1) (l4_55 + 1) u4_1 (hfk_5_102) (hfk_5_103) (hfk_5_112) (hfk_5_113) (hfk_5_114) (hfk_5_115) hln_5 hrq_5 (lv_sub hl [0, 1, 3, 2] rfl) hS (hD.sub (ws' := [(h0, .inr (13, z_5)), (qf112, .inl (cf112, 6000, .inl f112)), (qf103, .inl (cf103, 8, .inl f103)), (qf102, .inl (cf102, 2048, .inl f102))]) [0, 3, 1, 2] (by decide) rfl) (hP.sub (ws' := [(h0, .inr (13, z_5)), (qf112, .inl (cf112, 6000, .inl f112)), (qf103, .inl (cf103, 8, .inl f103)), (qf102, .inl (cf102, 2048, .inl f102))]) [0, 3, 1, 2] rfl) hsp
      intro hj_55
      refine lv_iload hx hb dX13_scanTypes_24 (lv_at hl 0 rfl) ?_
      refine lv_iload_n hx hb dX13_scanTypes_26 rfl (lv_at hl 2 rfl) ?_
      refine lv_icmp_ge (tgt := 104) hx hb dX13_scanTypes_27 (by decide) (fun c_5 => ?_) (fun c_5 => ?_)
      · rw [if_pos c_5] at hsp
        refine lv_iload_n hx hb dX13_scanTypes_104 rfl (lv_at hl 1 rfl) ?_
        have hr0 := Option.some.inj hsp
        clear hsp
        obtain ⟨hq0, hr1⟩ := Prod.mk.inj hr0
        clear hr0
        subst hq0
        subst hr1
        have hP9 := hP.sub (ws' := [(h0, .inr (13, z24)), (qf112, .inl (cf112, 6000, .inl f112)), (qf103, .inl (cf103, 8, .inl f103)), (qf102, .inl (cf102, 2048, .inl f102))]) [0, 1, 2, 3] rfl
        have hD9 := hD.sub (ws' := [(h0, .inr (13, z24)), (qf112, .inl (cf112, 6000, .inl f112)), (qf103, .inl (cf103, 8, .inl f103)), (qf102, .inl (cf102, 2048, .inl f102))]) [0, 1, 2, 3] (by decide) rfl
        have hK9 := hK.sub (tys' := [(cf112, .int), (cf103, .int), (cf102, .int)]) [0, 1, 2] rfl
        exact W.iret hx hb hr (fun t ht hW => ⟨⟨(l3_24), (z24), rfl, ⟨rfl, hlh_24, hrh_24, hfh_24_114⟩, by rw [ht]; exact hP9, va_K.moved hW.alike hK9, hD9⟩, hS.F ht⟩) hS.2.2 dX13_scanTypes_105
      · rw [if_neg c_5] at hsp
        refine lv_aload_n hx hb dX13_scanTypes_30 rfl (lv_at hl 3 rfl) ?_
        refine lv_iload_n hx hb dX13_scanTypes_31 rfl (lv_at hl 1 rfl) ?_
        obtain ⟨⟨u2_0, u2_1⟩, hu_2, hsp⟩ := ox_bind hsp
        try dsimp only at hsp
        have hPc := hP.sub (ws' := [(h0, .inr (13, z24))]) [0] rfl
        have hDc := hD.sub (ws' := [(h0, .inr (13, z24))]) [0] (by decide) rfl
        have hKc := hK.sub (tys' := []) [] rfl
        have hFc := va_free (wc := [(h0, .inr (13, z24))]) hD hS hA [0] rfl
        refine va_calli (va_runV (As := [.int l3_24]) (rest := []) ⟨hx, hb, hml, hown, hts⟩ (tm_isByte l dC dI H.size h0 z24 l3_24 v113 x114_24 nf u2_0 u2_1 hlh_24 hfh_24_113 hfh_24_114 hu_2) (cwV 1 hts gv_h9_47 rfl rfl rfl (by decide +kernel) ⟨Nat.le_of_ble_eq_true rfl, Nat.le_of_ble_eq_true rfl⟩) ⟨fun a U g mk q => by obtain ⟨q0, q1, qP, qK, qD⟩ := q; exact ⟨q0, q1, qP, va_K.moved (u := U) (U := U.calling g mk a) (Vm.Alike.refl U.vm) qK, qD⟩, va_recv hKc hPc (ci := 13) (q0 := 0) rfl rfl, fun U hU hW => ⟨rfl, by rw [hU], by rw [hU]; exact hPc, va_K.moved hW.alike hKc, hDc.weaken (fun _ _ _ _ => trivial)⟩⟩ rfl rfl hl.1 rfl (lv_room (Nat.le_of_ble_eq_true rfl)) dX13_scanTypes_32 ⟨Nat.le_of_ble_eq_true rfl, Nat.le_of_ble_eq_true rfl⟩) hS (fun q _ h => hFc q h) hFc ?_
        clear hS
        intro r_6 u t H1 locs ht hvm hw hB hz1 hk1 hS
        obtain ⟨z_2, rfl⟩ : ∃ z, z = u := ⟨_, rfl⟩
        obtain ⟨hP1, hK1, hD1⟩ := hB
        rw [ht] at hP1
        have hK1 := va_K.moved hvm.symm hK1
        try dsimp only at hw
        have hPD := va_join (wr := [(qf112, .inl (cf112, 6000, .inl f112)), (qf103, .inl (cf103, 8, .inl f103)), (qf102, .inl (cf102, 2048, .inl f102))]) (w1 := [(h0, .inr (13, z_2))]) hP hD [0] [1, 2, 3] rfl rfl (by decide) (by decide) hk1 hFc hP1 hD1
        clear hP hD
        obtain ⟨hP, hD⟩ := hPD
        replace hK := (hK.sub (tys' := [(cf112, .int), (cf103, .int), (cf102, .int)]) [0, 1, 2] rfl).app hK1
        clear hPc hDc hKc hFc hP1 hK1 hD1 hz1 hk1 ht hvm
        generalize H1 = H at hP hS ⊢
        replace hP : va_P (dC, dI) vwCl [(qf112, .inl (cf112, 6000, .inl f112)), (qf103, .inl (cf103, 8, .inl f103)), (qf102, .inl (cf102, 2048, .inl f102)), (h0, .inr (13, z_2))] H := hP
        replace hD : va_D A [(qf112, .inl (cf112, 6000, .inl f112)), (qf103, .inl (cf103, 8, .inl f103)), (qf102, .inl (cf102, 2048, .inl f102)), (h0, .inr (13, z_2))] := hD
        replace hK : va_K (dC, dI) vwCl [(cf112, .int), (cf103, .int), (cf102, .int)] s := hK
        obtain ⟨hwa_2, hln_2, hre_2, hch_2_114⟩ := hw
        have hfk_2_102 : z_2[102]? = some (.ref qf102) := (hre_2 102 (by decide)).trans (hfh_24_102)
        have hfk_2_103 : z_2[103]? = some (.ref qf103) := (hre_2 103 (by decide)).trans (hfh_24_103)
        have hfk_2_112 : z_2[112]? = some (.ref qf112) := (hre_2 112 (by decide)).trans (hfh_24_112)
        have hfk_2_113 : z_2[113]? = some (.int v113) := (hre_2 113 (by decide)).trans (hfh_24_113)
        have hfk_2_115 : z_2[115]? = some (.int v115) := (hre_2 115 (by decide)).trans (hfh_24_115)
        have hrq_2 : ∀ j : Nat, j ≠ 114 → z_2[j]? = zs[j]? := fun j g114 => (hre_2 j g114).trans (hrh_24 j g114)
        obtain ⟨rfl, hz_2⟩ := hwa_2
        rcases hz_2 with rfl | rfl
        · rw [if_pos rfl] at hsp
          refine lv_if_ne (tgt := 40) hx hb dX13_scanTypes_35 (by decide) (fun c_7 => (show False by revert c_7; decide).elim) (fun c_7 => ?_)
          refine lv_iload_n hx hb dX13_scanTypes_38 rfl (lv_at hl 1 rfl) ?_
          have hr0 := Option.some.inj hsp
          clear hsp
          obtain ⟨hq0, hr1⟩ := Prod.mk.inj hr0
          clear hr0
          subst hq0
          subst hr1
          have hP9 := hP.sub (ws' := [(h0, .inr (13, z_2)), (qf112, .inl (cf112, 6000, .inl f112)), (qf103, .inl (cf103, 8, .inl f103)), (qf102, .inl (cf102, 2048, .inl f102))]) [3, 0, 1, 2] rfl
          have hD9 := hD.sub (ws' := [(h0, .inr (13, z_2)), (qf112, .inl (cf112, 6000, .inl f112)), (qf103, .inl (cf103, 8, .inl f103)), (qf102, .inl (cf102, 2048, .inl f102))]) [3, 0, 1, 2] (by decide) rfl
          have hK9 := hK.sub (tys' := [(cf112, .int), (cf103, .int), (cf102, .int)]) [0, 1, 2] rfl
          exact W.iret hx hb hr (fun t ht hW => ⟨⟨(l3_24), (z_2), rfl, ⟨rfl, hln_2, hrq_2, hch_2_114⟩, by rw [ht]; exact hP9, va_K.moved hW.alike hK9, hD9⟩, hS.F ht⟩) hS.2.2 dX13_scanTypes_39
        · rw [if_neg (by decide)] at hsp
          refine lv_if_ne (tgt := 40) hx hb dX13_scanTypes_35 (by decide) (fun c_8 => ?_) (fun c_8 => (show False by revert c_8; decide).elim)
          refine lv_aload_n hx hb dX13_scanTypes_40 rfl (lv_at hl 3 rfl) ?_
          refine va_get (D := (dC, dI)) (ci := 13) (v := .ref qf112) (C := RX13) (T := TX13) (N := 155) hx hb hts uV_h9_X13 hown hK hP 3 rfl rfl 112 (by decide) (hts (.fieldLink RX13 245 "ClassMillModel" "look" "[I") mw_h9_242) (fun _ h9 => h9) hfk_2_112 dX13_scanTypes_41 ?_
          refine lv_iload_n hx hb dX13_scanTypes_44 rfl (lv_at hl 1 rfl) ?_
          obtain ⟨hi_9, hsp⟩ := ox_in hsp
          refine va_iald hx hb hK hP 0 0 rfl rfl (i := l3_24) hi_9 dX13_scanTypes_45 ?_
          refine lv_iconst (v := 3) hx hb dX13_scanTypes_46 (by decide) ?_
          refine lv_icmp_le (tgt := 55) hx hb dX13_scanTypes_47 (by decide) (fun c_10 => ?_) (fun c_10 => ?_)
          · rw [if_pos c_10] at hsp
            exact hj_55 (H, locs, ls, z_2, l2_24, l3_24, l4_24, u2_1) ⟨lv_sub hl [3, 2, 1, 0] rfl, hS, hD.sub (ws' := [(h0, .inr (13, z_2)), (qf112, .inl (cf112, 6000, .inl f112)), (qf103, .inl (cf103, 8, .inl f103)), (qf102, .inl (cf102, 2048, .inl f102))]) [3, 0, 1, 2] (by decide) rfl, hP.sub (ws' := [(h0, .inr (13, z_2)), (qf112, .inl (cf112, 6000, .inl f112)), (qf103, .inl (cf103, 8, .inl f103)), (qf102, .inl (cf102, 2048, .inl f102))]) [3, 0, 1, 2] rfl, hfk_2_102, hfk_2_103, hfk_2_112, hfk_2_113, hch_2_114, hfk_2_115, hln_2, hrq_2, hsp⟩
          · rw [if_neg c_10] at hsp
            refine lv_aload_n hx hb dX13_scanTypes_50 rfl (lv_at hl 3 rfl) ?_
            refine lv_iload_n hx hb dX13_scanTypes_51 rfl (lv_at hl 1 rfl) ?_
            obtain ⟨u3_0, hu_3, hsp⟩ := ox_bind hsp
            try dsimp only at hsp
            have hPc := hP.sub (ws' := [(h0, .inr (13, z_2))]) [3] rfl
            have hDc := hD.sub (ws' := [(h0, .inr (13, z_2))]) [3] (by decide) rfl
            have hKc := hK.sub (tys' := []) [] rfl
            have hFc := va_free (wc := [(h0, .inr (13, z_2))]) hD hS hA [3] rfl
            refine va_callv (va_runV (As := [.int l3_24]) (rest := []) ⟨hx, hb, hml, hown, hts⟩ (tm_unfit l dC dI H.size h0 z_2 l3_24 u2_1 nf u3_0 hln_2 hch_2_114 hu_3) (cwV 1 hts gv_h9_48 rfl rfl rfl (by decide +kernel) ⟨Nat.le_of_ble_eq_true rfl, Nat.le_of_ble_eq_true rfl⟩) ⟨fun a U g mk q => by obtain ⟨q0, q1, qP, qK, qD⟩ := q; exact ⟨q0, q1, qP, va_K.moved (u := U) (U := U.calling g mk a) (Vm.Alike.refl U.vm) qK, qD⟩, va_recv hKc hPc (ci := 13) (q0 := 0) rfl rfl, fun U hU hW => ⟨rfl, by rw [hU], by rw [hU]; exact hPc, va_K.moved hW.alike hKc, hDc.weaken (fun _ _ _ _ => trivial)⟩⟩ rfl rfl hl.1 rfl (lv_room (Nat.le_of_ble_eq_true rfl)) dX13_scanTypes_52 ⟨Nat.le_of_ble_eq_true rfl, Nat.le_of_ble_eq_true rfl⟩) hS (fun q _ h => hFc q h) hFc ?_
            clear hS
            intro u t H1 locs ht hvm hw hB hz1 hk1 hS
            obtain ⟨z_3, rfl⟩ : ∃ z, z = u := ⟨_, rfl⟩
            obtain ⟨hP1, hK1, hD1⟩ := hB
            rw [ht] at hP1
            have hK1 := va_K.moved hvm.symm hK1
            try dsimp only at hw
            have hPD := va_join (wr := [(qf112, .inl (cf112, 6000, .inl f112)), (qf103, .inl (cf103, 8, .inl f103)), (qf102, .inl (cf102, 2048, .inl f102))]) (w1 := [(h0, .inr (13, z_3))]) hP hD [3] [0, 1, 2] rfl rfl (by decide) (by decide) hk1 hFc hP1 hD1
            clear hP hD
            obtain ⟨hP, hD⟩ := hPD
            replace hK := (hK.sub (tys' := [(cf112, .int), (cf103, .int), (cf102, .int)]) [0, 1, 2] rfl).app hK1
            clear hPc hDc hKc hFc hP1 hK1 hD1 hz1 hk1 ht hvm
            generalize H1 = H at hP hS ⊢
            replace hP : va_P (dC, dI) vwCl [(qf112, .inl (cf112, 6000, .inl f112)), (qf103, .inl (cf103, 8, .inl f103)), (qf102, .inl (cf102, 2048, .inl f102)), (h0, .inr (13, z_3))] H := hP
            replace hD : va_D A [(qf112, .inl (cf112, 6000, .inl f112)), (qf103, .inl (cf103, 8, .inl f103)), (qf102, .inl (cf102, 2048, .inl f102)), (h0, .inr (13, z_3))] := hD
            replace hK : va_K (dC, dI) vwCl [(cf112, .int), (cf103, .int), (cf102, .int)] s := hK
            obtain ⟨hwa_3, hln_3, hre_3, hch_3_114⟩ := hw
            have hfk_3_102 : z_3[102]? = some (.ref qf102) := (hre_3 102 (by decide)).trans (hfk_2_102)
            have hfk_3_103 : z_3[103]? = some (.ref qf103) := (hre_3 103 (by decide)).trans (hfk_2_103)
            have hfk_3_112 : z_3[112]? = some (.ref qf112) := (hre_3 112 (by decide)).trans (hfk_2_112)
            have hfk_3_113 : z_3[113]? = some (.int v113) := (hre_3 113 (by decide)).trans (hfk_2_113)
            have hfk_3_115 : z_3[115]? = some (.int v115) := (hre_3 115 (by decide)).trans (hfk_2_115)
            have hrq_3 : ∀ j : Nat, j ≠ 114 → z_3[j]? = zs[j]? := fun j g114 => (hre_3 j g114).trans (hrq_2 j g114)
            exact hj_55 (H, locs, ls, z_3, l2_24, l3_24, l4_24, u3_0) ⟨lv_sub hl [3, 2, 1, 0] rfl, hS, hD.sub (ws' := [(h0, .inr (13, z_3)), (qf112, .inl (cf112, 6000, .inl f112)), (qf103, .inl (cf103, 8, .inl f103)), (qf102, .inl (cf102, 2048, .inl f102))]) [3, 0, 1, 2] (by decide) rfl, hP.sub (ws' := [(h0, .inr (13, z_3)), (qf112, .inl (cf112, 6000, .inl f112)), (qf103, .inl (cf103, 8, .inl f103)), (qf102, .inl (cf102, 2048, .inl f102))]) [3, 0, 1, 2] rfl, hfk_3_102, hfk_3_103, hfk_3_112, hfk_3_113, hch_3_114, hfk_3_115, hln_3, hrq_3, hsp⟩
def lp_vm_sameText_72 (nf n : Nat) (a1 : Int32) (a2 : Int32) (a3 : Int32) (a4 : Int32) (f102 : Nat → Int32) (f100 : Nat → Int32)  (l5_72 : Int32) (l6_72 : Int32) (l7_72 : Int32) (l8_72 : Int32) : Option (Int32) := match n with
  | 0 => none
  | n + 1 => (if (l5_72 + 1) < 0 then none else if 48000 ≤ ((l5_72 + 1) : Int32).toNatClampNeg then none else (if (f100 ((l5_72 + 1) : Int32).toNatClampNeg) ≤ l8_72 then (if l7_72 = 0 then (some 0) else if l7_72 = 1 then (some 1) else none) else (if l7_72 = 0 then (if l7_72 = 0 then (some 0) else if l7_72 = 1 then (some 1) else none) else (if ((l5_72 + 2) + l8_72) < 0 then none else if 48000 ≤ (((l5_72 + 2) + l8_72) : Int32).toNatClampNeg then none else (if ((l6_72 + 2) + l8_72) < 0 then none else if 48000 ≤ (((l6_72 + 2) + l8_72) : Int32).toNatClampNeg then none else (if (f100 (((l5_72 + 2) + l8_72) : Int32).toNatClampNeg) = (f100 (((l6_72 + 2) + l8_72) : Int32).toNatClampNeg) then (lp_vm_sameText_72 nf n a1 a2 a3 a4 f102 f100 l5_72 l6_72 1 (l8_72 + 1)) else (lp_vm_sameText_72 nf n a1 a2 a3 a4 f102 f100 l5_72 l6_72 0 (l8_72 + 1))))))))
def jn_vm_sameText_67 (nf : Nat) (a1 : Int32) (a2 : Int32) (a3 : Int32) (a4 : Int32) (f102 : Nat → Int32) (f100 : Nat → Int32)  (l5_67 : Int32) (l6_67 : Int32) (s0_67 : Int32) : Option (Int32) := (lp_vm_sameText_72 nf nf a1 a2 a3 a4 f102 f100  l5_67 l6_67 s0_67 0)
def sp_vm_sameText (nf : Nat) (a1 : Int32) (a2 : Int32) (a3 : Int32) (a4 : Int32) (f102 : Nat → Int32) (f100 : Nat → Int32) : Option (Int32) := (if ((256 * a1) + a2) < 0 then none else if 2048 ≤ (((256 * a1) + a2) : Int32).toNatClampNeg then none else (if ((256 * a3) + a4) < 0 then none else if 2048 ≤ (((256 * a3) + a4) : Int32).toNatClampNeg then none else (if (((6000 * a1) + (f102 (((256 * a1) + a2) : Int32).toNatClampNeg)) + 1) < 0 then none else if 48000 ≤ ((((6000 * a1) + (f102 (((256 * a1) + a2) : Int32).toNatClampNeg)) + 1) : Int32).toNatClampNeg then none else (if (((6000 * a3) + (f102 (((256 * a3) + a4) : Int32).toNatClampNeg)) + 1) < 0 then none else if 48000 ≤ ((((6000 * a3) + (f102 (((256 * a3) + a4) : Int32).toNatClampNeg)) + 1) : Int32).toNatClampNeg then none else (if (f100 ((((6000 * a1) + (f102 (((256 * a1) + a2) : Int32).toNatClampNeg)) + 1) : Int32).toNatClampNeg) = (f100 ((((6000 * a3) + (f102 (((256 * a3) + a4) : Int32).toNatClampNeg)) + 1) : Int32).toNatClampNeg) then (jn_vm_sameText_67 nf a1 a2 a3 a4 f102 f100  ((6000 * a1) + (f102 (((256 * a1) + a2) : Int32).toNatClampNeg)) ((6000 * a3) + (f102 (((256 * a3) + a4) : Int32).toNatClampNeg)) 1) else (jn_vm_sameText_67 nf a1 a2 a3 a4 f102 f100  ((6000 * a1) + (f102 (((256 * a1) + a2) : Int32).toNatClampNeg)) ((6000 * a3) + (f102 (((256 * a3) + a4) : Int32).toNatClampNeg)) 0))))))
