set_option maxHeartbeats 4000000 in
set_option maxRecDepth 100000 in
/-- ClassMillModel.scanMethod -/
theorem vm_scanMethod (l : Launch) (dC : Nat → ClassId) (dI : Nat → Nat → Nat) (sz : Nat) (h0 : Nat) (zs : (List Value)) (a1 : Int32) (a2 : Int32) (a3 : Int32) (qf102 : Nat) (qf103 : Nat) (qf110 : Nat) (qf111 : Nat) (qf112 : Nat) (v113 : Int32) (v114 : Int32) (v115 : Int32) (cf112 : ClassId) (f112 : (Nat → Int32)) (cf103 : ClassId) (f103 : (Nat → Int32)) (cf102 : ClassId) (f102 : (Nat → Int32)) (cf110 : ClassId) (f110 : (Nat → Int32)) (cf111 : ClassId) (f111 : (Nat → Int32)) (nf : Nat) (r0 : Int32) (o110 : (Nat → Int32)) (o111 : (Nat → Int32)) (w114 : Int32) (hlen : zs.length = 155) (hf102 : zs[102]? = some (.ref qf102)) (hf103 : zs[103]? = some (.ref qf103)) (hf110 : zs[110]? = some (.ref qf110)) (hf111 : zs[111]? = some (.ref qf111)) (hf112 : zs[112]? = some (.ref qf112)) (hf113 : zs[113]? = some (.int v113)) (hf114 : zs[114]? = some (.int v114)) (hf115 : zs[115]? = some (.int v115)) (hsp : sp_vm_scanMethod nf a1 a2 a3 v113 v114 v115 f112 f103 f102 f110 f111 = some (r0, o110, o111, w114)) : Met l yX13_scanMethod (.code yX13_scanMethod cX13_scanMethod 11 (some .int) :: VS_h9) ({ frames := 8, cells := 0, slots := 0, locals := 184 }) (va_Pc [.ref h0, .int a1, .int a2, .int a3] (fun U => U.heap.size = sz ∧ va_P (dC, dI) vwCl [(h0, .inr (13, zs)), (qf112, .inl (cf112, 6000, .inl f112)), (qf103, .inl (cf103, 8, .inl f103)), (qf102, .inl (cf102, 2048, .inl f102)), (qf110, .inl (cf110, 96, .inl f110)), (qf111, .inl (cf111, 96, .inl f111))] U.heap ∧ va_K (dC, dI) vwCl [(cf112, .int), (cf103, .int), (cf102, .int), (cf110, .int), (cf111, .int)] U ∧ va_D (fun _ => True) [(h0, .inr (13, zs)), (qf112, .inl (cf112, 6000, .inl f112)), (qf103, .inl (cf103, 8, .inl f103)), (qf102, .inl (cf102, 2048, .inl f102)), (qf110, .inl (cf110, 96, .inl f110)), (qf111, .inl (cf111, 96, .inl f111))])) (va_Qi (fun (r : Int32) (u : (List Value)) => match u with | (zo1) => r0 = r ∧ zo1.length = 155 ∧ (∀ j : Nat, j ≠ 114 → zo1[j]? = zs[j]?) ∧ zo1[114]? = some (.int w114)) (fun (u : (List Value)) (t : State) => match u with | (zo1) => va_P (dC, dI) vwCl [(h0, .inr (13, zo1)), (qf112, .inl (cf112, 6000, .inl f112)), (qf103, .inl (cf103, 8, .inl f103)), (qf102, .inl (cf102, 2048, .inl f102)), (qf110, .inl (cf110, 96, .inl o110)), (qf111, .inl (cf111, 96, .inl o111))] t.heap ∧ va_K (dC, dI) vwCl [(cf112, .int), (cf103, .int), (cf102, .int), (cf110, .int), (cf111, .int)] t ∧ va_D (va_A [(h0, .inr (13, zs)), (qf112, .inl (cf112, 6000, .inl f112)), (qf103, .inl (cf103, 8, .inl f103)), (qf102, .inl (cf102, 2048, .inl f102)), (qf110, .inl (cf110, 96, .inl f110)), (qf111, .inl (cf111, 96, .inl f111))] sz) [(h0, .inr (13, zo1)), (qf112, .inl (cf112, 6000, .inl f112)), (qf103, .inl (cf103, 8, .inl f103)), (qf102, .inl (cf102, 2048, .inl f102)), (qf110, .inl (cf110, 96, .inl o110)), (qf111, .inl (cf111, 96, .inl o111))]) (va_A [(h0, .inr (13, zs)), (qf112, .inl (cf112, 6000, .inl f112)), (qf103, .inl (cf103, 8, .inl f103)), (qf102, .inl (cf102, 2048, .inl f102)), (qf110, .inl (cf110, 96, .inl f110)), (qf111, .inl (cf111, 96, .inl f111))] sz)) 0 0 (va_A [(h0, .inr (13, zs)), (qf112, .inl (cf112, 6000, .inl f112)), (qf103, .inl (cf103, 8, .inl f103)), (qf102, .inl (cf102, 2048, .inl f102)), (qf110, .inl (cf110, 96, .inl f110)), (qf111, .inl (cf111, 96, .inl f111))] sz) := by
  refine Met.ofW (cc := cX13_scanMethod) (maxL := 11) (ret := (some .int)) (by decide) rfl ?_
  intro p e s m args below meth c s₁ B hml hv
  obtain ⟨rfl, hsz, hP, hK, hD0⟩ := hv
  have hx := B.exec
  have hb := B.bytes
  have hr := B.returns
  have hts := atoms_spec (ws := (.code yX13_scanMethod cX13_scanMethod 11 (some .int) :: VS_h9)) B.pre
  replace hts := fun w (h : w ∈ VS_h9) => hts w (List.mem_cons_of_mem _ h)
  have hown : s.vm.findClass RX13 = some m.cls := findClass_of_methodNamed B.named
  have hlocks := B.notSynchronized
  subst hsz
  have hD := hD0.self (sz := s.heap.size)
  generalize hAe : va_A [(h0, .inr (13, zs)), (qf112, .inl (cf112, 6000, .inl f112)), (qf103, .inl (cf103, 8, .inl f103)), (qf102, .inl (cf102, 2048, .inl f102)), (qf110, .inl (cf110, 96, .inl f110)), (qf111, .inl (cf111, 96, .inl f111))] s.heap.size = A at hD  ⊢
  have hA : ∀ q : Nat, s.heap.size ≤ q → A q := fun q h => by rw [← hAe]; exact Or.inr h
  have hP : va_P (dC, dI) vwCl [(h0, .inr (13, zs)), (qf112, .inl (cf112, 6000, .inl f112)), (qf103, .inl (cf103, 8, .inl f103)), (qf102, .inl (cf102, 2048, .inl f102)), (qf110, .inl (cf110, 96, .inl f110)), (qf111, .inl (cf111, 96, .inl f111))] s.heap := hP
  have hl := lv_entry ([.ref h0, .int a1, .int a2, .int a3]) (n := 11) (Nat.le_of_ble_eq_true rfl)
  rw [lg_entry_eq]
  generalize (lg_sl ([.ref h0, .int a1, .int a2, .int a3]) ++ List.replicate (11 - (lg_sl ([.ref h0, .int a1, .int a2, .int a3])).length) Slot.unset).toArray = ls at hl ⊢
  have hl : lv_has ls 11 [(0, .ref h0), (1, .int a1), (2, .int a2), (3, .int a3)] := hl
  obtain ⟨H, hH⟩ : ∃ H : Heap, s.heap = H := ⟨_, rfl⟩
  rw [hH] at hP ⊢
  have hS : va_S A s.heap H [] := by rw [← hH]; exact va_S.rf
  obtain ⟨locs, hlo⟩ : ∃ locs : List Loc, locs = [] := ⟨_, rfl⟩
  rw [← hlo] at hS ⊢
  have hrs0 : ∀ j : Nat, j ≠ 114 → zs[j]? = zs[j]? := fun _ _  => rfl
  unfold sp_vm_scanMethod at hsp
  refine jn_use (α := Heap × List Loc × Array Slot × List Value × Int32 × Int32 × (Nat → Int32) × (Nat → Int32) × Int32) (fun x9 => x9.1) (fun x9 => x9.2.1) (fun x9 => F0 m 491 x9.2.2.1 []) (fun x9 => match x9 with | (H, locs, ls, z491, l4_491, l9_491, g110_491, g111_491, x114_491) => lv_has ls 11 [(0, .ref h0), (4, .int l4_491), (9, .int l9_491)] ∧ va_S A s.heap H locs ∧ va_D A [(h0, .inr (13, z491)), (qf112, .inl (cf112, 6000, .inl f112)), (qf103, .inl (cf103, 8, .inl f103)), (qf102, .inl (cf102, 2048, .inl f102)), (qf110, .inl (cf110, 96, .inl g110_491)), (qf111, .inl (cf111, 96, .inl g111_491))] ∧ va_P (dC, dI) vwCl [(h0, .inr (13, z491)), (qf112, .inl (cf112, 6000, .inl f112)), (qf103, .inl (cf103, 8, .inl f103)), (qf102, .inl (cf102, 2048, .inl f102)), (qf110, .inl (cf110, 96, .inl g110_491)), (qf111, .inl (cf111, 96, .inl g111_491))] H ∧ z491[102]? = some (.ref qf102) ∧ z491[103]? = some (.ref qf103) ∧ z491[110]? = some (.ref qf110) ∧ z491[111]? = some (.ref qf111) ∧ z491[112]? = some (.ref qf112) ∧ z491[113]? = some (.int v113) ∧ z491[114]? = some (.int x114_491) ∧ z491[115]? = some (.int v115) ∧ z491.length = 155 ∧ (∀ j : Nat, j ≠ 114 → z491[j]? = zs[j]?) ∧ jn_vm_scanMethod_491 nf a1 a2 a3 v113 v114 v115 f112 f103 f102 f110 f111 l4_491 l9_491 g110_491 g111_491 x114_491 = some (r0, o110, o111, w114)) ?_ ?_
  · intro x9 hJ9
    obtain ⟨H, locs, ls, z491, l4_491, l9_491, g110_491, g111_491, x114_491⟩ := x9
    obtain ⟨hl, hS, hD, hP, hfh_491_102, hfh_491_103, hfh_491_110, hfh_491_111, hfh_491_112, hfh_491_113, hfh_491_114, hfh_491_115, hlh_491, hrh_491, hsp⟩ := hJ9
    replace hl : lv_has ls 11 [(0, .ref h0), (4, .int l4_491), (9, .int l9_491)] := hl
    replace hS : va_S A s.heap H locs := hS
    replace hD : va_D A [(h0, .inr (13, z491)), (qf112, .inl (cf112, 6000, .inl f112)), (qf103, .inl (cf103, 8, .inl f103)), (qf102, .inl (cf102, 2048, .inl f102)), (qf110, .inl (cf110, 96, .inl g110_491)), (qf111, .inl (cf111, 96, .inl g111_491))] := hD
    replace hP : va_P (dC, dI) vwCl [(h0, .inr (13, z491)), (qf112, .inl (cf112, 6000, .inl f112)), (qf103, .inl (cf103, 8, .inl f103)), (qf102, .inl (cf102, 2048, .inl f102)), (qf110, .inl (cf110, 96, .inl g110_491)), (qf111, .inl (cf111, 96, .inl g111_491))] H := hP
    replace hsp : jn_vm_scanMethod_491 nf a1 a2 a3 v113 v114 v115 f112 f103 f102 f110 f111 l4_491 l9_491 g110_491 g111_491 x114_491 = some (r0, o110, o111, w114) := hsp
    show W _ _ _ _ _ _ _ _ _ _ H locs _ _ _ (F0 m 491 ls [])
    unfold jn_vm_scanMethod_491 at hsp
    try dsimp only at hsp
    refine lv_iinc (v := (l4_491 + 1)) (lv' := [(4, .int (l4_491 + 1)), (0, .ref h0), (9, .int l9_491)]) hx hb dX13_scanMethod_491 hl (k := 1) rfl rfl (by decide) rfl (fun ls hl => ?_)
    refine lv_iconst (v := 0) hx hb dX13_scanMethod_494 (by decide) ?_
    refine lv_istore (lv' := [(10, .int 0), (4, .int (l4_491 + 1)), (0, .ref h0), (9, .int l9_491)]) hx hb dX13_scanMethod_495 hl (by decide) rfl (fun ls hl => ?_)
    replace hl : lv_has ls 11 [(10, .int 0), (4, .int (l4_491 + 1)), (0, .ref h0), (9, .int l9_491)] := lv_sub hl [0, 1, 2, 3] rfl
    replace hP := hP.sub (ws' := [(h0, .inr (13, z491)), (qf112, .inl (cf112, 6000, .inl f112)), (qf103, .inl (cf103, 8, .inl f103)), (qf102, .inl (cf102, 2048, .inl f102)), (qf110, .inl (cf110, 96, .inl g110_491)), (qf111, .inl (cf111, 96, .inl g111_491))]) [0, 1, 2, 3, 4, 5] rfl
    replace hD := hD.sub (ws' := [(h0, .inr (13, z491)), (qf112, .inl (cf112, 6000, .inl f112)), (qf103, .inl (cf103, 8, .inl f103)), (qf102, .inl (cf102, 2048, .inl f102)), (qf110, .inl (cf110, 96, .inl g110_491)), (qf111, .inl (cf111, 96, .inl g111_491))]) [0, 1, 2, 3, 4, 5] (by decide) rfl
    replace hK := hK.sub (tys' := [(cf112, .int), (cf103, .int), (cf102, .int), (cf110, .int), (cf111, .int)]) [0, 1, 2, 3, 4] rfl
    obtain ⟨n_497, hn_497⟩ : ∃ z : Nat, z = nf := ⟨_, rfl⟩
    obtain ⟨l4_497, el4_497⟩ : ∃ z : Int32, z = (l4_491 + 1) := ⟨_, rfl⟩
    obtain ⟨l9_497, el9_497⟩ : ∃ z : Int32, z = l9_491 := ⟨_, rfl⟩
    obtain ⟨l10_497, el10_497⟩ : ∃ z : Int32, z = 0 := ⟨_, rfl⟩
    obtain ⟨g110_497, eg110_497⟩ : ∃ z : Nat → Int32, z = g110_491 := ⟨_, rfl⟩
    obtain ⟨g111_497, eg111_497⟩ : ∃ z : Nat → Int32, z = g111_491 := ⟨_, rfl⟩
    obtain ⟨x114_497, ex114_497⟩ : ∃ z : Int32, z = x114_491 := ⟨_, rfl⟩
    replace hsp : lp_vm_scanMethod_497 nf n_497 a1 a2 a3 v113 v114 v115 f112 f103 f102 f110 f111 l4_497 l9_497 l10_497 g110_497 g111_497 x114_497 = some (r0, o110, o111, w114) := by rw [hn_497, el4_497, el9_497, el10_497, eg110_497, eg111_497, ex114_497]; exact hsp
    replace hl : lv_has ls 11 [(10, .int l10_497), (4, .int l4_497), (0, .ref h0), (9, .int l9_497)] := by rw [el4_497, el9_497, el10_497]; exact hl
    obtain ⟨z497, ez497⟩ : ∃ z : List Value, z = z491 := ⟨_, rfl⟩
    have hfh_497_102 : z497[102]? = some (.ref qf102) := by rw [ez497]; exact hfh_491_102
    have hfh_497_103 : z497[103]? = some (.ref qf103) := by rw [ez497]; exact hfh_491_103
    have hfh_497_110 : z497[110]? = some (.ref qf110) := by rw [ez497]; exact hfh_491_110
    have hfh_497_111 : z497[111]? = some (.ref qf111) := by rw [ez497]; exact hfh_491_111
    have hfh_497_112 : z497[112]? = some (.ref qf112) := by rw [ez497]; exact hfh_491_112
    have hfh_497_113 : z497[113]? = some (.int v113) := by rw [ez497]; exact hfh_491_113
    have hfh_497_114 : z497[114]? = some (.int x114_497) := by rw [ez497, ex114_497]; exact hfh_491_114
    have hfh_497_115 : z497[115]? = some (.int v115) := by rw [ez497]; exact hfh_491_115
    have hlh_497 : z497.length = 155 := by rw [ez497]; exact hlh_491
    have hrh_497 : ∀ j : Nat, j ≠ 114 → z497[j]? = zs[j]? := by rw [ez497]; exact hrh_491
    replace hP : va_P (dC, dI) vwCl [(h0, .inr (13, z497)), (qf112, .inl (cf112, 6000, .inl f112)), (qf103, .inl (cf103, 8, .inl f103)), (qf102, .inl (cf102, 2048, .inl f102)), (qf110, .inl (cf110, 96, .inl g110_497)), (qf111, .inl (cf111, 96, .inl g111_497))] H := by rw [ez497, eg110_497, eg111_497]; exact hP
    replace hD : va_D A [(h0, .inr (13, z497)), (qf112, .inl (cf112, 6000, .inl f112)), (qf103, .inl (cf103, 8, .inl f103)), (qf102, .inl (cf102, 2048, .inl f102)), (qf110, .inl (cf110, 96, .inl g110_497)), (qf111, .inl (cf111, 96, .inl g111_497))] := by rw [ez497, eg110_497, eg111_497]; exact hD
    clear hn_497 ez497 el4_497 el9_497 el10_497 eg110_497 eg111_497 ex114_497
    try clear hlo
    try clear hH
    revert hsp
    revert hP
    revert hD
    revert hS
    revert hl
    revert hrh_497
    revert hlh_497
    revert hfh_497_115
    revert hfh_497_114
    revert hfh_497_113
    revert hfh_497_112
    revert hfh_497_111
    revert hfh_497_110
    revert hfh_497_103
    revert hfh_497_102
    revert x114_497
    revert g111_497
    revert g110_497
    revert l10_497
    revert l9_497
    revert l4_497
    revert z497
    revert ls
    revert locs
    revert H
    induction n_497 with
    | zero => intro H locs ls z497 l4_497 l9_497 l10_497 g110_497 g111_497 x114_497 hfh_497_102 hfh_497_103 hfh_497_110 hfh_497_111 hfh_497_112 hfh_497_113 hfh_497_114 hfh_497_115 hlh_497 hrh_497 hl hS hD hP hsp; unfold lp_vm_scanMethod_497 at hsp; cases hsp
    | succ n_497 ih_497 =>
      intro H locs ls z497 l4_497 l9_497 l10_497 g110_497 g111_497 x114_497 hfh_497_102 hfh_497_103 hfh_497_110 hfh_497_111 hfh_497_112 hfh_497_113 hfh_497_114 hfh_497_115 hlh_497 hrh_497 hl hS hD hP hsp
      unfold lp_vm_scanMethod_497 at hsp
      try dsimp only at hsp
      refine lv_iload hx hb dX13_scanMethod_497 (lv_at hl 0 rfl) ?_
      refine lv_iload hx hb dX13_scanMethod_499 (lv_at hl 3 rfl) ?_
      refine lv_icmp_ge (tgt := 546) hx hb dX13_scanMethod_501 (by decide) (fun c_71 => ?_) (fun c_71 => ?_)
      · rw [if_pos c_71] at hsp
        refine lv_iload hx hb dX13_scanMethod_546 (lv_at hl 1 rfl) ?_
        have hr0 := Option.some.inj hsp
        clear hsp
        obtain ⟨hq0, hr1⟩ := Prod.mk.inj hr0
        clear hr0
        obtain ⟨hq1, hr2⟩ := Prod.mk.inj hr1
        clear hr1
        obtain ⟨hq2, hr3⟩ := Prod.mk.inj hr2
        clear hr2
        subst hq0
        subst hq1
        subst hq2
        subst hr3
        have hP9 := hP.sub (ws' := [(h0, .inr (13, z497)), (qf112, .inl (cf112, 6000, .inl f112)), (qf103, .inl (cf103, 8, .inl f103)), (qf102, .inl (cf102, 2048, .inl f102)), (qf110, .inl (cf110, 96, .inl g110_497)), (qf111, .inl (cf111, 96, .inl g111_497))]) [0, 1, 2, 3, 4, 5] rfl
        have hD9 := hD.sub (ws' := [(h0, .inr (13, z497)), (qf112, .inl (cf112, 6000, .inl f112)), (qf103, .inl (cf103, 8, .inl f103)), (qf102, .inl (cf102, 2048, .inl f102)), (qf110, .inl (cf110, 96, .inl g110_497)), (qf111, .inl (cf111, 96, .inl g111_497))]) [0, 1, 2, 3, 4, 5] (by decide) rfl
        have hK9 := hK.sub (tys' := [(cf112, .int), (cf103, .int), (cf102, .int), (cf110, .int), (cf111, .int)]) [0, 1, 2, 3, 4] rfl
        exact W.iret hx hb hr (fun t ht hW => ⟨⟨(l4_497), (z497), rfl, ⟨rfl, hlh_497, hrh_497, hfh_497_114⟩, by rw [ht]; exact hP9, va_K.moved hW.alike hK9, hD9⟩, hS.F ht⟩) hS.2.2 dX13_scanMethod_548
      · rw [if_neg c_71] at hsp
        refine lv_aload_n hx hb dX13_scanMethod_504 rfl (lv_at hl 2 rfl) ?_
        refine va_get (D := (dC, dI)) (ci := 13) (v := .int x114_497) (C := RX13) (T := TX13) (N := 155) hx hb hts uV_h9_X13 hown hK hP 0 rfl rfl 114 (by decide) (hts (.fieldLink RX13 764 "ClassMillModel" "form" "I") mw_h9_251) (fun _ h9 => h9) hfh_497_114 dX13_scanMethod_505 ?_
        refine lv_iconst (v := (-1)) hx hb dX13_scanMethod_508 (by decide) ?_
        refine lv_icmp_ne (tgt := 546) hx hb dX13_scanMethod_509 (by decide) (fun c_72 => ?_) (fun c_72 => ?_)
        · rw [if_neg c_72] at hsp
          refine lv_iload hx hb dX13_scanMethod_546 (lv_at hl 1 rfl) ?_
          have hr0 := Option.some.inj hsp
          clear hsp
          obtain ⟨hq0, hr1⟩ := Prod.mk.inj hr0
          clear hr0
          obtain ⟨hq1, hr2⟩ := Prod.mk.inj hr1
          clear hr1
          obtain ⟨hq2, hr3⟩ := Prod.mk.inj hr2
          clear hr2
          subst hq0
          subst hq1
          subst hq2
          subst hr3
          have hP9 := hP.sub (ws' := [(h0, .inr (13, z497)), (qf112, .inl (cf112, 6000, .inl f112)), (qf103, .inl (cf103, 8, .inl f103)), (qf102, .inl (cf102, 2048, .inl f102)), (qf110, .inl (cf110, 96, .inl g110_497)), (qf111, .inl (cf111, 96, .inl g111_497))]) [0, 1, 2, 3, 4, 5] rfl
          have hD9 := hD.sub (ws' := [(h0, .inr (13, z497)), (qf112, .inl (cf112, 6000, .inl f112)), (qf103, .inl (cf103, 8, .inl f103)), (qf102, .inl (cf102, 2048, .inl f102)), (qf110, .inl (cf110, 96, .inl g110_497)), (qf111, .inl (cf111, 96, .inl g111_497))]) [0, 1, 2, 3, 4, 5] (by decide) rfl
          have hK9 := hK.sub (tys' := [(cf112, .int), (cf103, .int), (cf102, .int), (cf110, .int), (cf111, .int)]) [0, 1, 2, 3, 4] rfl
          exact W.iret hx hb hr (fun t ht hW => ⟨⟨(l4_497), (z497), rfl, ⟨rfl, hlh_497, hrh_497, hfh_497_114⟩, by rw [ht]; exact hP9, va_K.moved hW.alike hK9, hD9⟩, hS.F ht⟩) hS.2.2 dX13_scanMethod_548
        · rw [if_pos c_72] at hsp
          refine lv_aload_n hx hb dX13_scanMethod_512 rfl (lv_at hl 2 rfl) ?_
          refine lv_iload hx hb dX13_scanMethod_513 (lv_at hl 1 rfl) ?_
          refine lv_iconst (v := 1) hx hb dX13_scanMethod_515 (by decide) ?_
          refine lv_iadd hx hb dX13_scanMethod_516 ?_
          obtain ⟨⟨u26_0, u26_1⟩, hu_26, hsp⟩ := ox_bind hsp
          try dsimp only at hsp
          have hPc := hP.sub (ws' := [(h0, .inr (13, z497))]) [0] rfl
          have hDc := hD.sub (ws' := [(h0, .inr (13, z497))]) [0] (by decide) rfl
          have hKc := hK.sub (tys' := []) [] rfl
          have hFc := va_free (wc := [(h0, .inr (13, z497))]) hD hS hA [0] rfl
          refine va_calli (va_runV (As := [.int (l4_497 + 1)]) (rest := []) ⟨hx, hb, hml, hown, hts⟩ (tm_isByte l dC dI H.size h0 z497 ((l4_497 + 1)) v113 x114_497 nf u26_0 u26_1 hlh_497 hfh_497_113 hfh_497_114 hu_26) (cwV 1 hts gv_h9_47 rfl rfl rfl (by decide +kernel) ⟨Nat.le_of_ble_eq_true rfl, Nat.le_of_ble_eq_true rfl⟩) ⟨fun a U g mk q => by obtain ⟨q0, q1, qP, qK, qD⟩ := q; exact ⟨q0, q1, qP, va_K.moved (u := U) (U := U.calling g mk a) (Vm.Alike.refl U.vm) qK, qD⟩, va_recv hKc hPc (ci := 13) (q0 := 0) rfl rfl, fun U hU hW => ⟨rfl, by rw [hU], by rw [hU]; exact hPc, va_K.moved hW.alike hKc, hDc.weaken (fun _ _ _ _ => trivial)⟩⟩ rfl rfl hl.1 rfl (lv_room (Nat.le_of_ble_eq_true rfl)) dX13_scanMethod_517 ⟨Nat.le_of_ble_eq_true rfl, Nat.le_of_ble_eq_true rfl⟩) hS (fun q _ h => hFc q h) hFc ?_
          clear hS
          intro r_73 u t H1 locs ht hvm hw hB hz1 hk1 hS
          obtain ⟨z_26, rfl⟩ : ∃ z, z = u := ⟨_, rfl⟩
          obtain ⟨hP1, hK1, hD1⟩ := hB
          rw [ht] at hP1
          have hK1 := va_K.moved hvm.symm hK1
          try dsimp only at hw
          have hPD := va_join (wr := [(qf112, .inl (cf112, 6000, .inl f112)), (qf103, .inl (cf103, 8, .inl f103)), (qf102, .inl (cf102, 2048, .inl f102)), (qf110, .inl (cf110, 96, .inl g110_497)), (qf111, .inl (cf111, 96, .inl g111_497))]) (w1 := [(h0, .inr (13, z_26))]) hP hD [0] [1, 2, 3, 4, 5] rfl rfl (by decide) (by decide) hk1 hFc hP1 hD1
          clear hP hD
          obtain ⟨hP, hD⟩ := hPD
          replace hK := (hK.sub (tys' := [(cf112, .int), (cf103, .int), (cf102, .int), (cf110, .int), (cf111, .int)]) [0, 1, 2, 3, 4] rfl).app hK1
          clear hPc hDc hKc hFc hP1 hK1 hD1 hz1 hk1 ht hvm
          generalize H1 = H at hP hS ⊢
          replace hP : va_P (dC, dI) vwCl [(qf112, .inl (cf112, 6000, .inl f112)), (qf103, .inl (cf103, 8, .inl f103)), (qf102, .inl (cf102, 2048, .inl f102)), (qf110, .inl (cf110, 96, .inl g110_497)), (qf111, .inl (cf111, 96, .inl g111_497)), (h0, .inr (13, z_26))] H := hP
          replace hD : va_D A [(qf112, .inl (cf112, 6000, .inl f112)), (qf103, .inl (cf103, 8, .inl f103)), (qf102, .inl (cf102, 2048, .inl f102)), (qf110, .inl (cf110, 96, .inl g110_497)), (qf111, .inl (cf111, 96, .inl g111_497)), (h0, .inr (13, z_26))] := hD
          replace hK : va_K (dC, dI) vwCl [(cf112, .int), (cf103, .int), (cf102, .int), (cf110, .int), (cf111, .int)] s := hK
          obtain ⟨hwa_26, hln_26, hre_26, hch_26_114⟩ := hw
          have hfk_26_102 : z_26[102]? = some (.ref qf102) := (hre_26 102 (by decide)).trans (hfh_497_102)
          have hfk_26_103 : z_26[103]? = some (.ref qf103) := (hre_26 103 (by decide)).trans (hfh_497_103)
          have hfk_26_110 : z_26[110]? = some (.ref qf110) := (hre_26 110 (by decide)).trans (hfh_497_110)
          have hfk_26_111 : z_26[111]? = some (.ref qf111) := (hre_26 111 (by decide)).trans (hfh_497_111)
          have hfk_26_112 : z_26[112]? = some (.ref qf112) := (hre_26 112 (by decide)).trans (hfh_497_112)
          have hfk_26_113 : z_26[113]? = some (.int v113) := (hre_26 113 (by decide)).trans (hfh_497_113)
          have hfk_26_115 : z_26[115]? = some (.int v115) := (hre_26 115 (by decide)).trans (hfh_497_115)
          have hrq_26 : ∀ j : Nat, j ≠ 114 → z_26[j]? = zs[j]? := fun j g114 => (hre_26 j g114).trans (hrh_497 j g114)
          obtain ⟨rfl, hz_26⟩ := hwa_26
          rcases hz_26 with rfl | rfl
          · rw [if_pos rfl] at hsp
            refine lv_if_ne (tgt := 526) hx hb dX13_scanMethod_520 (by decide) (fun c_74 => (show False by revert c_74; decide).elim) (fun c_74 => ?_)
            refine lv_iload hx hb dX13_scanMethod_523 (lv_at hl 1 rfl) ?_
            have hr0 := Option.some.inj hsp
            clear hsp
            obtain ⟨hq0, hr1⟩ := Prod.mk.inj hr0
            clear hr0
            obtain ⟨hq1, hr2⟩ := Prod.mk.inj hr1
            clear hr1
            obtain ⟨hq2, hr3⟩ := Prod.mk.inj hr2
            clear hr2
            subst hq0
            subst hq1
            subst hq2
            subst hr3
            have hP9 := hP.sub (ws' := [(h0, .inr (13, z_26)), (qf112, .inl (cf112, 6000, .inl f112)), (qf103, .inl (cf103, 8, .inl f103)), (qf102, .inl (cf102, 2048, .inl f102)), (qf110, .inl (cf110, 96, .inl g110_497)), (qf111, .inl (cf111, 96, .inl g111_497))]) [5, 0, 1, 2, 3, 4] rfl
            have hD9 := hD.sub (ws' := [(h0, .inr (13, z_26)), (qf112, .inl (cf112, 6000, .inl f112)), (qf103, .inl (cf103, 8, .inl f103)), (qf102, .inl (cf102, 2048, .inl f102)), (qf110, .inl (cf110, 96, .inl g110_497)), (qf111, .inl (cf111, 96, .inl g111_497))]) [5, 0, 1, 2, 3, 4] (by decide) rfl
            have hK9 := hK.sub (tys' := [(cf112, .int), (cf103, .int), (cf102, .int), (cf110, .int), (cf111, .int)]) [0, 1, 2, 3, 4] rfl
            exact W.iret hx hb hr (fun t ht hW => ⟨⟨(l4_497), (z_26), rfl, ⟨rfl, hln_26, hrq_26, hch_26_114⟩, by rw [ht]; exact hP9, va_K.moved hW.alike hK9, hD9⟩, hS.F ht⟩) hS.2.2 dX13_scanMethod_525
          · rw [if_neg (by decide)] at hsp
            refine lv_if_ne (tgt := 526) hx hb dX13_scanMethod_520 (by decide) (fun c_75 => ?_) (fun c_75 => (show False by revert c_75; decide).elim)
            refine lv_aload_n hx hb dX13_scanMethod_526 rfl (lv_at hl 2 rfl) ?_
            refine lv_aload_n hx hb dX13_scanMethod_527 rfl (lv_at hl 2 rfl) ?_
            refine lv_iload hx hb dX13_scanMethod_528 (lv_at hl 1 rfl) ?_
            refine lv_iconst (v := 2) hx hb dX13_scanMethod_530 (by decide) ?_
            refine lv_iadd hx hb dX13_scanMethod_531 ?_
            obtain ⟨⟨u27_0, u27_1⟩, hu_27, hsp⟩ := ox_bind hsp
            try dsimp only at hsp
            have hPc := hP.sub (ws' := [(h0, .inr (13, z_26)), (qf112, .inl (cf112, 6000, .inl f112)), (qf103, .inl (cf103, 8, .inl f103)), (qf102, .inl (cf102, 2048, .inl f102))]) [5, 0, 1, 2] rfl
            have hDc := hD.sub (ws' := [(h0, .inr (13, z_26)), (qf112, .inl (cf112, 6000, .inl f112)), (qf103, .inl (cf103, 8, .inl f103)), (qf102, .inl (cf102, 2048, .inl f102))]) [5, 0, 1, 2] (by decide) rfl
            have hKc := hK.sub (tys' := [(cf112, .int), (cf103, .int), (cf102, .int)]) [0, 1, 2] rfl
            have hFc := va_free (wc := [(h0, .inr (13, z_26)), (qf112, .inl (cf112, 6000, .inl f112)), (qf103, .inl (cf103, 8, .inl f103)), (qf102, .inl (cf102, 2048, .inl f102))]) hD hS hA [5, 0, 1, 2] rfl
            refine va_calli (va_runV (As := [.int (l4_497 + 2)]) (rest := [.ref h0]) ⟨hx, hb, hml, hown, hts⟩ (vm_scanTypes l dC dI H.size h0 z_26 ((l4_497 + 2)) qf102 qf103 qf112 v113 u26_1 v115 cf112 f112 cf103 f103 cf102 f102 nf u27_0 u27_1 hln_26 hfk_26_102 hfk_26_103 hfk_26_112 hfk_26_113 hch_26_114 hfk_26_115 hu_27) (cwV 1 hts gv_h9_88 rfl rfl rfl (by decide +kernel) ⟨Nat.le_of_ble_eq_true rfl, Nat.le_of_ble_eq_true rfl⟩) ⟨fun a U g mk q => by obtain ⟨q0, q1, qP, qK, qD⟩ := q; exact ⟨q0, q1, qP, va_K.moved (u := U) (U := U.calling g mk a) (Vm.Alike.refl U.vm) qK, qD⟩, va_recv hKc hPc (ci := 13) (q0 := 0) rfl rfl, fun U hU hW => ⟨rfl, by rw [hU], by rw [hU]; exact hPc, va_K.moved hW.alike hKc, hDc.weaken (fun _ _ _ _ => trivial)⟩⟩ rfl rfl hl.1 rfl (lv_room (Nat.le_of_ble_eq_true rfl)) dX13_scanMethod_532 ⟨Nat.le_of_ble_eq_true rfl, Nat.le_of_ble_eq_true rfl⟩) hS (fun q _ h => hFc q h) hFc ?_
            clear hS
            intro r_76 u t H1 locs ht hvm hw hB hz1 hk1 hS
            obtain ⟨z_27, rfl⟩ : ∃ z, z = u := ⟨_, rfl⟩
            obtain ⟨hP1, hK1, hD1⟩ := hB
            rw [ht] at hP1
            have hK1 := va_K.moved hvm.symm hK1
            try dsimp only at hw
            have hPD := va_join (wr := [(qf110, .inl (cf110, 96, .inl g110_497)), (qf111, .inl (cf111, 96, .inl g111_497))]) (w1 := [(h0, .inr (13, z_27)), (qf112, .inl (cf112, 6000, .inl f112)), (qf103, .inl (cf103, 8, .inl f103)), (qf102, .inl (cf102, 2048, .inl f102))]) hP hD [5, 0, 1, 2] [3, 4] rfl rfl (by decide) (by decide) hk1 hFc hP1 hD1
            clear hP hD
            obtain ⟨hP, hD⟩ := hPD
            replace hK := (hK.sub (tys' := [(cf110, .int), (cf111, .int)]) [3, 4] rfl).app hK1
            clear hPc hDc hKc hFc hP1 hK1 hD1 hz1 hk1 ht hvm
            generalize H1 = H at hP hS ⊢
            replace hP : va_P (dC, dI) vwCl [(qf110, .inl (cf110, 96, .inl g110_497)), (qf111, .inl (cf111, 96, .inl g111_497)), (h0, .inr (13, z_27)), (qf112, .inl (cf112, 6000, .inl f112)), (qf103, .inl (cf103, 8, .inl f103)), (qf102, .inl (cf102, 2048, .inl f102))] H := hP
            replace hD : va_D A [(qf110, .inl (cf110, 96, .inl g110_497)), (qf111, .inl (cf111, 96, .inl g111_497)), (h0, .inr (13, z_27)), (qf112, .inl (cf112, 6000, .inl f112)), (qf103, .inl (cf103, 8, .inl f103)), (qf102, .inl (cf102, 2048, .inl f102))] := hD
            replace hK : va_K (dC, dI) vwCl [(cf110, .int), (cf111, .int), (cf112, .int), (cf103, .int), (cf102, .int)] s := hK
            obtain ⟨hwa_27, hln_27, hre_27, hch_27_114⟩ := hw
            have hfk_27_102 : z_27[102]? = some (.ref qf102) := (hre_27 102 (by decide)).trans (hfk_26_102)
            have hfk_27_103 : z_27[103]? = some (.ref qf103) := (hre_27 103 (by decide)).trans (hfk_26_103)
            have hfk_27_110 : z_27[110]? = some (.ref qf110) := (hre_27 110 (by decide)).trans (hfk_26_110)
            have hfk_27_111 : z_27[111]? = some (.ref qf111) := (hre_27 111 (by decide)).trans (hfk_26_111)
            have hfk_27_112 : z_27[112]? = some (.ref qf112) := (hre_27 112 (by decide)).trans (hfk_26_112)
            have hfk_27_113 : z_27[113]? = some (.int v113) := (hre_27 113 (by decide)).trans (hfk_26_113)
            have hfk_27_115 : z_27[115]? = some (.int v115) := (hre_27 115 (by decide)).trans (hfk_26_115)
            have hrq_27 : ∀ j : Nat, j ≠ 114 → z_27[j]? = zs[j]? := fun j g114 => (hre_27 j g114).trans (hrq_26 j g114)
            obtain rfl := hwa_27
            obtain ⟨⟨u28_0, u28_1⟩, hu_28, hsp⟩ := ox_bind hsp
            try dsimp only at hsp
            have hPc := hP.sub (ws' := [(h0, .inr (13, z_27)), (qf112, .inl (cf112, 6000, .inl f112)), (qf103, .inl (cf103, 8, .inl f103)), (qf102, .inl (cf102, 2048, .inl f102))]) [2, 3, 4, 5] rfl
            have hDc := hD.sub (ws' := [(h0, .inr (13, z_27)), (qf112, .inl (cf112, 6000, .inl f112)), (qf103, .inl (cf103, 8, .inl f103)), (qf102, .inl (cf102, 2048, .inl f102))]) [2, 3, 4, 5] (by decide) rfl
            have hKc := hK.sub (tys' := [(cf112, .int), (cf103, .int), (cf102, .int)]) [2, 3, 4] rfl
            have hFc := va_free (wc := [(h0, .inr (13, z_27)), (qf112, .inl (cf112, 6000, .inl f112)), (qf103, .inl (cf103, 8, .inl f103)), (qf102, .inl (cf102, 2048, .inl f102))]) hD hS hA [2, 3, 4, 5] rfl
            refine va_calli (va_runV (As := [.int u27_0]) (rest := []) ⟨hx, hb, hml, hown, hts⟩ (vm_scanTypes l dC dI H.size h0 z_27 u27_0 qf102 qf103 qf112 v113 u27_1 v115 cf112 f112 cf103 f103 cf102 f102 nf u28_0 u28_1 hln_27 hfk_27_102 hfk_27_103 hfk_27_112 hfk_27_113 hch_27_114 hfk_27_115 hu_28) (cwV 1 hts gv_h9_88 rfl rfl rfl (by decide +kernel) ⟨Nat.le_of_ble_eq_true rfl, Nat.le_of_ble_eq_true rfl⟩) ⟨fun a U g mk q => by obtain ⟨q0, q1, qP, qK, qD⟩ := q; exact ⟨q0, q1, qP, va_K.moved (u := U) (U := U.calling g mk a) (Vm.Alike.refl U.vm) qK, qD⟩, va_recv hKc hPc (ci := 13) (q0 := 0) rfl rfl, fun U hU hW => ⟨rfl, by rw [hU], by rw [hU]; exact hPc, va_K.moved hW.alike hKc, hDc.weaken (fun _ _ _ _ => trivial)⟩⟩ rfl rfl hl.1 rfl (lv_room (Nat.le_of_ble_eq_true rfl)) dX13_scanMethod_535 ⟨Nat.le_of_ble_eq_true rfl, Nat.le_of_ble_eq_true rfl⟩) hS (fun q _ h => hFc q h) hFc ?_
            clear hS
            intro r_77 u t H1 locs ht hvm hw hB hz1 hk1 hS
            obtain ⟨z_28, rfl⟩ : ∃ z, z = u := ⟨_, rfl⟩
            obtain ⟨hP1, hK1, hD1⟩ := hB
            rw [ht] at hP1
            have hK1 := va_K.moved hvm.symm hK1
            try dsimp only at hw
            have hPD := va_join (wr := [(qf110, .inl (cf110, 96, .inl g110_497)), (qf111, .inl (cf111, 96, .inl g111_497))]) (w1 := [(h0, .inr (13, z_28)), (qf112, .inl (cf112, 6000, .inl f112)), (qf103, .inl (cf103, 8, .inl f103)), (qf102, .inl (cf102, 2048, .inl f102))]) hP hD [2, 3, 4, 5] [0, 1] rfl rfl (by decide) (by decide) hk1 hFc hP1 hD1
            clear hP hD
            obtain ⟨hP, hD⟩ := hPD
            replace hK := (hK.sub (tys' := [(cf110, .int), (cf111, .int)]) [0, 1] rfl).app hK1
            clear hPc hDc hKc hFc hP1 hK1 hD1 hz1 hk1 ht hvm
            generalize H1 = H at hP hS ⊢
            replace hP : va_P (dC, dI) vwCl [(qf110, .inl (cf110, 96, .inl g110_497)), (qf111, .inl (cf111, 96, .inl g111_497)), (h0, .inr (13, z_28)), (qf112, .inl (cf112, 6000, .inl f112)), (qf103, .inl (cf103, 8, .inl f103)), (qf102, .inl (cf102, 2048, .inl f102))] H := hP
            replace hD : va_D A [(qf110, .inl (cf110, 96, .inl g110_497)), (qf111, .inl (cf111, 96, .inl g111_497)), (h0, .inr (13, z_28)), (qf112, .inl (cf112, 6000, .inl f112)), (qf103, .inl (cf103, 8, .inl f103)), (qf102, .inl (cf102, 2048, .inl f102))] := hD
            replace hK : va_K (dC, dI) vwCl [(cf110, .int), (cf111, .int), (cf112, .int), (cf103, .int), (cf102, .int)] s := hK
            obtain ⟨hwa_28, hln_28, hre_28, hch_28_114⟩ := hw
            have hfk_28_102 : z_28[102]? = some (.ref qf102) := (hre_28 102 (by decide)).trans (hfk_27_102)
            have hfk_28_103 : z_28[103]? = some (.ref qf103) := (hre_28 103 (by decide)).trans (hfk_27_103)
            have hfk_28_110 : z_28[110]? = some (.ref qf110) := (hre_28 110 (by decide)).trans (hfk_27_110)
            have hfk_28_111 : z_28[111]? = some (.ref qf111) := (hre_28 111 (by decide)).trans (hfk_27_111)
            have hfk_28_112 : z_28[112]? = some (.ref qf112) := (hre_28 112 (by decide)).trans (hfk_27_112)
            have hfk_28_113 : z_28[113]? = some (.int v113) := (hre_28 113 (by decide)).trans (hfk_27_113)
            have hfk_28_115 : z_28[115]? = some (.int v115) := (hre_28 115 (by decide)).trans (hfk_27_115)
            have hrq_28 : ∀ j : Nat, j ≠ 114 → z_28[j]? = zs[j]? := fun j g114 => (hre_28 j g114).trans (hrq_27 j g114)
            obtain rfl := hwa_28
            refine lv_istore (lv' := [(4, .int u28_0), (10, .int l10_497), (0, .ref h0), (9, .int l9_497)]) hx hb dX13_scanMethod_538 hl (by decide) rfl (fun ls hl => ?_)
            refine lv_iinc (v := (l10_497 + 1)) (lv' := [(10, .int (l10_497 + 1)), (4, .int u28_0), (0, .ref h0), (9, .int l9_497)]) hx hb dX13_scanMethod_540 hl (k := 1) rfl rfl (by decide) rfl (fun ls hl => ?_)
            refine lv_goto (tgt := 497) hx hb dX13_scanMethod_543 (by decide) ?_
            exact ih_497 H locs ls z_28 u28_0 l9_497 (l10_497 + 1) g110_497 g111_497 u28_1 (hfk_28_102) (hfk_28_103) (hfk_28_110) (hfk_28_111) (hfk_28_112) (hfk_28_113) (hch_28_114) (hfk_28_115) hln_28 hrq_28 (lv_sub hl [0, 1, 2, 3] rfl) hS (hD.sub (ws' := [(h0, .inr (13, z_28)), (qf112, .inl (cf112, 6000, .inl f112)), (qf103, .inl (cf103, 8, .inl f103)), (qf102, .inl (cf102, 2048, .inl f102)), (qf110, .inl (cf110, 96, .inl g110_497)), (qf111, .inl (cf111, 96, .inl g111_497))]) [2, 3, 4, 5, 0, 1] (by decide) rfl) (hP.sub (ws' := [(h0, .inr (13, z_28)), (qf112, .inl (cf112, 6000, .inl f112)), (qf103, .inl (cf103, 8, .inl f103)), (qf102, .inl (cf102, 2048, .inl f102)), (qf110, .inl (cf110, 96, .inl g110_497)), (qf111, .inl (cf111, 96, .inl g111_497))]) [2, 3, 4, 5, 0, 1] rfl) hsp
  intro hj_491
  refine jn_use (α := Heap × List Loc × Array Slot × List Value × Int32 × Int32 × Int32 × (Nat → Int32) × (Nat → Int32) × Int32) (fun x9 => x9.1) (fun x9 => x9.2.1) (fun x9 => F0 m 444 x9.2.2.1 []) (fun x9 => match x9 with | (H, locs, ls, z444, l1_444, l2_444, l4_444, g110_444, g111_444, x114_444) => lv_has ls 11 [(0, .ref h0), (1, .int l1_444), (2, .int l2_444), (4, .int l4_444)] ∧ va_S A s.heap H locs ∧ va_D A [(h0, .inr (13, z444)), (qf112, .inl (cf112, 6000, .inl f112)), (qf103, .inl (cf103, 8, .inl f103)), (qf102, .inl (cf102, 2048, .inl f102)), (qf110, .inl (cf110, 96, .inl g110_444)), (qf111, .inl (cf111, 96, .inl g111_444))] ∧ va_P (dC, dI) vwCl [(h0, .inr (13, z444)), (qf112, .inl (cf112, 6000, .inl f112)), (qf103, .inl (cf103, 8, .inl f103)), (qf102, .inl (cf102, 2048, .inl f102)), (qf110, .inl (cf110, 96, .inl g110_444)), (qf111, .inl (cf111, 96, .inl g111_444))] H ∧ z444[102]? = some (.ref qf102) ∧ z444[103]? = some (.ref qf103) ∧ z444[110]? = some (.ref qf110) ∧ z444[111]? = some (.ref qf111) ∧ z444[112]? = some (.ref qf112) ∧ z444[113]? = some (.int v113) ∧ z444[114]? = some (.int x114_444) ∧ z444[115]? = some (.int v115) ∧ z444.length = 155 ∧ (∀ j : Nat, j ≠ 114 → z444[j]? = zs[j]?) ∧ jn_vm_scanMethod_444 nf a1 a2 a3 v113 v114 v115 f112 f103 f102 f110 f111 l1_444 l2_444 l4_444 g110_444 g111_444 x114_444 = some (r0, o110, o111, w114)) ?_ ?_
  · intro x9 hJ9
    obtain ⟨H, locs, ls, z444, l1_444, l2_444, l4_444, g110_444, g111_444, x114_444⟩ := x9
    obtain ⟨hl, hS, hD, hP, hfh_444_102, hfh_444_103, hfh_444_110, hfh_444_111, hfh_444_112, hfh_444_113, hfh_444_114, hfh_444_115, hlh_444, hrh_444, hsp⟩ := hJ9
    replace hl : lv_has ls 11 [(0, .ref h0), (1, .int l1_444), (2, .int l2_444), (4, .int l4_444)] := hl
    replace hS : va_S A s.heap H locs := hS
    replace hD : va_D A [(h0, .inr (13, z444)), (qf112, .inl (cf112, 6000, .inl f112)), (qf103, .inl (cf103, 8, .inl f103)), (qf102, .inl (cf102, 2048, .inl f102)), (qf110, .inl (cf110, 96, .inl g110_444)), (qf111, .inl (cf111, 96, .inl g111_444))] := hD
    replace hP : va_P (dC, dI) vwCl [(h0, .inr (13, z444)), (qf112, .inl (cf112, 6000, .inl f112)), (qf103, .inl (cf103, 8, .inl f103)), (qf102, .inl (cf102, 2048, .inl f102)), (qf110, .inl (cf110, 96, .inl g110_444)), (qf111, .inl (cf111, 96, .inl g111_444))] H := hP
    replace hsp : jn_vm_scanMethod_444 nf a1 a2 a3 v113 v114 v115 f112 f103 f102 f110 f111 l1_444 l2_444 l4_444 g110_444 g111_444 x114_444 = some (r0, o110, o111, w114) := hsp
    show W _ _ _ _ _ _ _ _ _ _ H locs _ _ _ (F0 m 444 ls [])
    unfold jn_vm_scanMethod_444 at hsp
    try dsimp only at hsp
    refine lv_aload_n hx hb dX13_scanMethod_444 rfl (lv_at hl 0 rfl) ?_
    refine lv_iload hx hb dX13_scanMethod_445 (lv_at hl 3 rfl) ?_
    obtain ⟨⟨u24_0, u24_1⟩, hu_24, hsp⟩ := ox_bind hsp
    try dsimp only at hsp
    have hPc := hP.sub (ws' := [(h0, .inr (13, z444))]) [0] rfl
    have hDc := hD.sub (ws' := [(h0, .inr (13, z444))]) [0] (by decide) rfl
    have hKc := hK.sub (tys' := []) [] rfl
    have hFc := va_free (wc := [(h0, .inr (13, z444))]) hD hS hA [0] rfl
    refine va_calli (va_runV (As := [.int l4_444]) (rest := []) ⟨hx, hb, hml, hown, hts⟩ (tm_isByte l dC dI H.size h0 z444 l4_444 v113 x114_444 nf u24_0 u24_1 hlh_444 hfh_444_113 hfh_444_114 hu_24) (cwV 1 hts gv_h9_47 rfl rfl rfl (by decide +kernel) ⟨Nat.le_of_ble_eq_true rfl, Nat.le_of_ble_eq_true rfl⟩) ⟨fun a U g mk q => by obtain ⟨q0, q1, qP, qK, qD⟩ := q; exact ⟨q0, q1, qP, va_K.moved (u := U) (U := U.calling g mk a) (Vm.Alike.refl U.vm) qK, qD⟩, va_recv hKc hPc (ci := 13) (q0 := 0) rfl rfl, fun U hU hW => ⟨rfl, by rw [hU], by rw [hU]; exact hPc, va_K.moved hW.alike hKc, hDc.weaken (fun _ _ _ _ => trivial)⟩⟩ rfl rfl hl.1 rfl (lv_room (Nat.le_of_ble_eq_true rfl)) dX13_scanMethod_447 ⟨Nat.le_of_ble_eq_true rfl, Nat.le_of_ble_eq_true rfl⟩) hS (fun q _ h => hFc q h) hFc ?_
    clear hS
    intro r_65 u t H1 locs ht hvm hw hB hz1 hk1 hS
    obtain ⟨z_24, rfl⟩ : ∃ z, z = u := ⟨_, rfl⟩
    obtain ⟨hP1, hK1, hD1⟩ := hB
    rw [ht] at hP1
    have hK1 := va_K.moved hvm.symm hK1
    try dsimp only at hw
    have hPD := va_join (wr := [(qf112, .inl (cf112, 6000, .inl f112)), (qf103, .inl (cf103, 8, .inl f103)), (qf102, .inl (cf102, 2048, .inl f102)), (qf110, .inl (cf110, 96, .inl g110_444)), (qf111, .inl (cf111, 96, .inl g111_444))]) (w1 := [(h0, .inr (13, z_24))]) hP hD [0] [1, 2, 3, 4, 5] rfl rfl (by decide) (by decide) hk1 hFc hP1 hD1
    clear hP hD
    obtain ⟨hP, hD⟩ := hPD
    replace hK := (hK.sub (tys' := [(cf112, .int), (cf103, .int), (cf102, .int), (cf110, .int), (cf111, .int)]) [0, 1, 2, 3, 4] rfl).app hK1
    clear hPc hDc hKc hFc hP1 hK1 hD1 hz1 hk1 ht hvm
    generalize H1 = H at hP hS ⊢
    replace hP : va_P (dC, dI) vwCl [(qf112, .inl (cf112, 6000, .inl f112)), (qf103, .inl (cf103, 8, .inl f103)), (qf102, .inl (cf102, 2048, .inl f102)), (qf110, .inl (cf110, 96, .inl g110_444)), (qf111, .inl (cf111, 96, .inl g111_444)), (h0, .inr (13, z_24))] H := hP
    replace hD : va_D A [(qf112, .inl (cf112, 6000, .inl f112)), (qf103, .inl (cf103, 8, .inl f103)), (qf102, .inl (cf102, 2048, .inl f102)), (qf110, .inl (cf110, 96, .inl g110_444)), (qf111, .inl (cf111, 96, .inl g111_444)), (h0, .inr (13, z_24))] := hD
    replace hK : va_K (dC, dI) vwCl [(cf112, .int), (cf103, .int), (cf102, .int), (cf110, .int), (cf111, .int)] s := hK
    obtain ⟨hwa_24, hln_24, hre_24, hch_24_114⟩ := hw
    have hfk_24_102 : z_24[102]? = some (.ref qf102) := (hre_24 102 (by decide)).trans (hfh_444_102)
    have hfk_24_103 : z_24[103]? = some (.ref qf103) := (hre_24 103 (by decide)).trans (hfh_444_103)
    have hfk_24_110 : z_24[110]? = some (.ref qf110) := (hre_24 110 (by decide)).trans (hfh_444_110)
    have hfk_24_111 : z_24[111]? = some (.ref qf111) := (hre_24 111 (by decide)).trans (hfh_444_111)
    have hfk_24_112 : z_24[112]? = some (.ref qf112) := (hre_24 112 (by decide)).trans (hfh_444_112)
    have hfk_24_113 : z_24[113]? = some (.int v113) := (hre_24 113 (by decide)).trans (hfh_444_113)
    have hfk_24_115 : z_24[115]? = some (.int v115) := (hre_24 115 (by decide)).trans (hfh_444_115)
    have hrq_24 : ∀ j : Nat, j ≠ 114 → z_24[j]? = zs[j]? := fun j g114 => (hre_24 j g114).trans (hrh_444 j g114)
    obtain ⟨rfl, hz_24⟩ := hwa_24
    rcases hz_24 with rfl | rfl
    · rw [if_pos rfl] at hsp
      refine lv_if_ne (tgt := 456) hx hb dX13_scanMethod_450 (by decide) (fun c_66 => (show False by revert c_66; decide).elim) (fun c_66 => ?_)
      refine lv_iload hx hb dX13_scanMethod_453 (lv_at hl 3 rfl) ?_
      have hr0 := Option.some.inj hsp
      clear hsp
      obtain ⟨hq0, hr1⟩ := Prod.mk.inj hr0
      clear hr0
      obtain ⟨hq1, hr2⟩ := Prod.mk.inj hr1
      clear hr1
      obtain ⟨hq2, hr3⟩ := Prod.mk.inj hr2
      clear hr2
      subst hq0
      subst hq1
      subst hq2
      subst hr3
      have hP9 := hP.sub (ws' := [(h0, .inr (13, z_24)), (qf112, .inl (cf112, 6000, .inl f112)), (qf103, .inl (cf103, 8, .inl f103)), (qf102, .inl (cf102, 2048, .inl f102)), (qf110, .inl (cf110, 96, .inl g110_444)), (qf111, .inl (cf111, 96, .inl g111_444))]) [5, 0, 1, 2, 3, 4] rfl
      have hD9 := hD.sub (ws' := [(h0, .inr (13, z_24)), (qf112, .inl (cf112, 6000, .inl f112)), (qf103, .inl (cf103, 8, .inl f103)), (qf102, .inl (cf102, 2048, .inl f102)), (qf110, .inl (cf110, 96, .inl g110_444)), (qf111, .inl (cf111, 96, .inl g111_444))]) [5, 0, 1, 2, 3, 4] (by decide) rfl
      have hK9 := hK.sub (tys' := [(cf112, .int), (cf103, .int), (cf102, .int), (cf110, .int), (cf111, .int)]) [0, 1, 2, 3, 4] rfl
      exact W.iret hx hb hr (fun t ht hW => ⟨⟨(l4_444), (z_24), rfl, ⟨rfl, hln_24, hrq_24, hch_24_114⟩, by rw [ht]; exact hP9, va_K.moved hW.alike hK9, hD9⟩, hS.F ht⟩) hS.2.2 dX13_scanMethod_455
    · rw [if_neg (by decide)] at hsp
      refine lv_if_ne (tgt := 456) hx hb dX13_scanMethod_450 (by decide) (fun c_67 => ?_) (fun c_67 => (show False by revert c_67; decide).elim)
      refine lv_aload_n hx hb dX13_scanMethod_456 rfl (lv_at hl 0 rfl) ?_
      refine va_get (D := (dC, dI)) (ci := 13) (v := .ref qf111) (C := RX13) (T := TX13) (N := 155) hx hb hts uV_h9_X13 hown hK hP 5 rfl rfl 111 (by decide) (hts (.fieldLink RX13 242 "ClassMillModel" "framesAt" "[I") mw_h9_284) (fun _ h9 => h9) hfk_24_111 dX13_scanMethod_457 ?_
      refine lv_bipush (v := 12) hx hb dX13_scanMethod_460 (by decide) ?_
      refine lv_iload_n hx hb dX13_scanMethod_462 rfl (lv_at hl 1 rfl) ?_
      refine lv_imul hx hb dX13_scanMethod_463 ?_
      refine lv_iload_n hx hb dX13_scanMethod_464 rfl (lv_at hl 2 rfl) ?_
      refine lv_iadd hx hb dX13_scanMethod_465 ?_
      refine lv_iload hx hb dX13_scanMethod_466 (lv_at hl 3 rfl) ?_
      obtain ⟨hi_68, hsp⟩ := ox_in hsp
      refine va_iast hx hb hK hP hD hS 4 4 rfl rfl (i := ((12 * l1_444) + l2_444)) (x := l4_444) hi_68 dX13_scanMethod_468 ?_
      clear hP hD hS
      intro H locs hP hD hS
      replace hP : va_P (dC, dI) vwCl [(qf112, .inl (cf112, 6000, .inl f112)), (qf103, .inl (cf103, 8, .inl f103)), (qf102, .inl (cf102, 2048, .inl f102)), (qf110, .inl (cf110, 96, .inl g110_444)), (qf111, .inl (cf111, 96, .inl (upd g111_444 (((12 * l1_444) + l2_444) : Int32).toNatClampNeg l4_444))), (h0, .inr (13, z_24))] H := hP
      replace hD : va_D A [(qf112, .inl (cf112, 6000, .inl f112)), (qf103, .inl (cf103, 8, .inl f103)), (qf102, .inl (cf102, 2048, .inl f102)), (qf110, .inl (cf110, 96, .inl g110_444)), (qf111, .inl (cf111, 96, .inl (upd g111_444 (((12 * l1_444) + l2_444) : Int32).toNatClampNeg l4_444))), (h0, .inr (13, z_24))] := hD
      refine lv_aload_n hx hb dX13_scanMethod_469 rfl (lv_at hl 0 rfl) ?_
      refine va_get (D := (dC, dI)) (ci := 13) (v := .ref qf112) (C := RX13) (T := TX13) (N := 155) hx hb hts uV_h9_X13 hown hK hP 5 rfl rfl 112 (by decide) (hts (.fieldLink RX13 245 "ClassMillModel" "look" "[I") mw_h9_242) (fun _ h9 => h9) hfk_24_112 dX13_scanMethod_470 ?_
      refine lv_iload hx hb dX13_scanMethod_473 (lv_at hl 3 rfl) ?_
      obtain ⟨hi_69, hsp⟩ := ox_in hsp
      refine va_iald hx hb hK hP 0 0 rfl rfl (i := l4_444) hi_69 dX13_scanMethod_475 ?_
      refine lv_istore (lv' := [(9, .int (f112 (l4_444 : Int32).toNatClampNeg)), (0, .ref h0), (1, .int l1_444), (2, .int l2_444), (4, .int l4_444)]) hx hb dX13_scanMethod_476 hl (by decide) rfl (fun ls hl => ?_)
      refine lv_iload hx hb dX13_scanMethod_478 (lv_at hl 0 rfl) ?_
      refine lv_bipush (v := 100) hx hb dX13_scanMethod_480 (by decide) ?_
      refine lv_icmp_le (tgt := 491) hx hb dX13_scanMethod_482 (by decide) (fun c_70 => ?_) (fun c_70 => ?_)
      · rw [if_pos c_70] at hsp
        exact hj_491 (H, locs, ls, z_24, l4_444, (f112 (l4_444 : Int32).toNatClampNeg), g110_444, (upd g111_444 (((12 * l1_444) + l2_444) : Int32).toNatClampNeg l4_444), u24_1) ⟨lv_sub hl [1, 4, 0] rfl, hS, hD.sub (ws' := [(h0, .inr (13, z_24)), (qf112, .inl (cf112, 6000, .inl f112)), (qf103, .inl (cf103, 8, .inl f103)), (qf102, .inl (cf102, 2048, .inl f102)), (qf110, .inl (cf110, 96, .inl g110_444)), (qf111, .inl (cf111, 96, .inl (upd g111_444 (((12 * l1_444) + l2_444) : Int32).toNatClampNeg l4_444)))]) [5, 0, 1, 2, 3, 4] (by decide) rfl, hP.sub (ws' := [(h0, .inr (13, z_24)), (qf112, .inl (cf112, 6000, .inl f112)), (qf103, .inl (cf103, 8, .inl f103)), (qf102, .inl (cf102, 2048, .inl f102)), (qf110, .inl (cf110, 96, .inl g110_444)), (qf111, .inl (cf111, 96, .inl (upd g111_444 (((12 * l1_444) + l2_444) : Int32).toNatClampNeg l4_444)))]) [5, 0, 1, 2, 3, 4] rfl, hfk_24_102, hfk_24_103, hfk_24_110, hfk_24_111, hfk_24_112, hfk_24_113, hch_24_114, hfk_24_115, hln_24, hrq_24, hsp⟩
      · rw [if_neg c_70] at hsp
        refine lv_aload_n hx hb dX13_scanMethod_485 rfl (lv_at hl 1 rfl) ?_
        refine lv_iload hx hb dX13_scanMethod_486 (lv_at hl 4 rfl) ?_
        obtain ⟨u25_0, hu_25, hsp⟩ := ox_bind hsp
        try dsimp only at hsp
        have hPc := hP.sub (ws' := [(h0, .inr (13, z_24))]) [5] rfl
        have hDc := hD.sub (ws' := [(h0, .inr (13, z_24))]) [5] (by decide) rfl
        have hKc := hK.sub (tys' := []) [] rfl
        have hFc := va_free (wc := [(h0, .inr (13, z_24))]) hD hS hA [5] rfl
        refine va_callv (va_runV (As := [.int l4_444]) (rest := []) ⟨hx, hb, hml, hown, hts⟩ (tm_unfit l dC dI H.size h0 z_24 l4_444 u24_1 nf u25_0 hln_24 hch_24_114 hu_25) (cwV 1 hts gv_h9_48 rfl rfl rfl (by decide +kernel) ⟨Nat.le_of_ble_eq_true rfl, Nat.le_of_ble_eq_true rfl⟩) ⟨fun a U g mk q => by obtain ⟨q0, q1, qP, qK, qD⟩ := q; exact ⟨q0, q1, qP, va_K.moved (u := U) (U := U.calling g mk a) (Vm.Alike.refl U.vm) qK, qD⟩, va_recv hKc hPc (ci := 13) (q0 := 0) rfl rfl, fun U hU hW => ⟨rfl, by rw [hU], by rw [hU]; exact hPc, va_K.moved hW.alike hKc, hDc.weaken (fun _ _ _ _ => trivial)⟩⟩ rfl rfl hl.1 rfl (lv_room (Nat.le_of_ble_eq_true rfl)) dX13_scanMethod_488 ⟨Nat.le_of_ble_eq_true rfl, Nat.le_of_ble_eq_true rfl⟩) hS (fun q _ h => hFc q h) hFc ?_
        clear hS
        intro u t H1 locs ht hvm hw hB hz1 hk1 hS
        obtain ⟨z_25, rfl⟩ : ∃ z, z = u := ⟨_, rfl⟩
        obtain ⟨hP1, hK1, hD1⟩ := hB
        rw [ht] at hP1
        have hK1 := va_K.moved hvm.symm hK1
        try dsimp only at hw
        have hPD := va_join (wr := [(qf112, .inl (cf112, 6000, .inl f112)), (qf103, .inl (cf103, 8, .inl f103)), (qf102, .inl (cf102, 2048, .inl f102)), (qf110, .inl (cf110, 96, .inl g110_444)), (qf111, .inl (cf111, 96, .inl (upd g111_444 (((12 * l1_444) + l2_444) : Int32).toNatClampNeg l4_444)))]) (w1 := [(h0, .inr (13, z_25))]) hP hD [5] [0, 1, 2, 3, 4] rfl rfl (by decide) (by decide) hk1 hFc hP1 hD1
        clear hP hD
        obtain ⟨hP, hD⟩ := hPD
        replace hK := (hK.sub (tys' := [(cf112, .int), (cf103, .int), (cf102, .int), (cf110, .int), (cf111, .int)]) [0, 1, 2, 3, 4] rfl).app hK1
        clear hPc hDc hKc hFc hP1 hK1 hD1 hz1 hk1 ht hvm
        generalize H1 = H at hP hS ⊢
        replace hP : va_P (dC, dI) vwCl [(qf112, .inl (cf112, 6000, .inl f112)), (qf103, .inl (cf103, 8, .inl f103)), (qf102, .inl (cf102, 2048, .inl f102)), (qf110, .inl (cf110, 96, .inl g110_444)), (qf111, .inl (cf111, 96, .inl (upd g111_444 (((12 * l1_444) + l2_444) : Int32).toNatClampNeg l4_444))), (h0, .inr (13, z_25))] H := hP
        replace hD : va_D A [(qf112, .inl (cf112, 6000, .inl f112)), (qf103, .inl (cf103, 8, .inl f103)), (qf102, .inl (cf102, 2048, .inl f102)), (qf110, .inl (cf110, 96, .inl g110_444)), (qf111, .inl (cf111, 96, .inl (upd g111_444 (((12 * l1_444) + l2_444) : Int32).toNatClampNeg l4_444))), (h0, .inr (13, z_25))] := hD
        replace hK : va_K (dC, dI) vwCl [(cf112, .int), (cf103, .int), (cf102, .int), (cf110, .int), (cf111, .int)] s := hK
        obtain ⟨hwa_25, hln_25, hre_25, hch_25_114⟩ := hw
        have hfk_25_102 : z_25[102]? = some (.ref qf102) := (hre_25 102 (by decide)).trans (hfk_24_102)
        have hfk_25_103 : z_25[103]? = some (.ref qf103) := (hre_25 103 (by decide)).trans (hfk_24_103)
        have hfk_25_110 : z_25[110]? = some (.ref qf110) := (hre_25 110 (by decide)).trans (hfk_24_110)
        have hfk_25_111 : z_25[111]? = some (.ref qf111) := (hre_25 111 (by decide)).trans (hfk_24_111)
        have hfk_25_112 : z_25[112]? = some (.ref qf112) := (hre_25 112 (by decide)).trans (hfk_24_112)
        have hfk_25_113 : z_25[113]? = some (.int v113) := (hre_25 113 (by decide)).trans (hfk_24_113)
        have hfk_25_115 : z_25[115]? = some (.int v115) := (hre_25 115 (by decide)).trans (hfk_24_115)
        have hrq_25 : ∀ j : Nat, j ≠ 114 → z_25[j]? = zs[j]? := fun j g114 => (hre_25 j g114).trans (hrq_24 j g114)
        exact hj_491 (H, locs, ls, z_25, l4_444, (f112 (l4_444 : Int32).toNatClampNeg), g110_444, (upd g111_444 (((12 * l1_444) + l2_444) : Int32).toNatClampNeg l4_444), u25_0) ⟨lv_sub hl [1, 4, 0] rfl, hS, hD.sub (ws' := [(h0, .inr (13, z_25)), (qf112, .inl (cf112, 6000, .inl f112)), (qf103, .inl (cf103, 8, .inl f103)), (qf102, .inl (cf102, 2048, .inl f102)), (qf110, .inl (cf110, 96, .inl g110_444)), (qf111, .inl (cf111, 96, .inl (upd g111_444 (((12 * l1_444) + l2_444) : Int32).toNatClampNeg l4_444)))]) [5, 0, 1, 2, 3, 4] (by decide) rfl, hP.sub (ws' := [(h0, .inr (13, z_25)), (qf112, .inl (cf112, 6000, .inl f112)), (qf103, .inl (cf103, 8, .inl f103)), (qf102, .inl (cf102, 2048, .inl f102)), (qf110, .inl (cf110, 96, .inl g110_444)), (qf111, .inl (cf111, 96, .inl (upd g111_444 (((12 * l1_444) + l2_444) : Int32).toNatClampNeg l4_444)))]) [5, 0, 1, 2, 3, 4] rfl, hfk_25_102, hfk_25_103, hfk_25_110, hfk_25_111, hfk_25_112, hfk_25_113, hch_25_114, hfk_25_115, hln_25, hrq_25, hsp⟩
  intro hj_444
  refine jn_use (α := Heap × List Loc × Array Slot × List Value × Int32 × Int32 × Int32 × Int32 × (Nat → Int32) × (Nat → Int32) × Int32) (fun x9 => x9.1) (fun x9 => x9.2.1) (fun x9 => F0 m 375 x9.2.2.1 []) (fun x9 => match x9 with | (H, locs, ls, z375, l1_375, l2_375, l4_375, l8_375, g110_375, g111_375, x114_375) => lv_has ls 11 [(0, .ref h0), (1, .int l1_375), (2, .int l2_375), (4, .int l4_375), (8, .int l8_375)] ∧ va_S A s.heap H locs ∧ va_D A [(h0, .inr (13, z375)), (qf112, .inl (cf112, 6000, .inl f112)), (qf103, .inl (cf103, 8, .inl f103)), (qf102, .inl (cf102, 2048, .inl f102)), (qf110, .inl (cf110, 96, .inl g110_375)), (qf111, .inl (cf111, 96, .inl g111_375))] ∧ va_P (dC, dI) vwCl [(h0, .inr (13, z375)), (qf112, .inl (cf112, 6000, .inl f112)), (qf103, .inl (cf103, 8, .inl f103)), (qf102, .inl (cf102, 2048, .inl f102)), (qf110, .inl (cf110, 96, .inl g110_375)), (qf111, .inl (cf111, 96, .inl g111_375))] H ∧ z375[102]? = some (.ref qf102) ∧ z375[103]? = some (.ref qf103) ∧ z375[110]? = some (.ref qf110) ∧ z375[111]? = some (.ref qf111) ∧ z375[112]? = some (.ref qf112) ∧ z375[113]? = some (.int v113) ∧ z375[114]? = some (.int x114_375) ∧ z375[115]? = some (.int v115) ∧ z375.length = 155 ∧ (∀ j : Nat, j ≠ 114 → z375[j]? = zs[j]?) ∧ jn_vm_scanMethod_375 nf a1 a2 a3 v113 v114 v115 f112 f103 f102 f110 f111 l1_375 l2_375 l4_375 l8_375 g110_375 g111_375 x114_375 = some (r0, o110, o111, w114)) ?_ ?_
  · intro x9 hJ9
    obtain ⟨H, locs, ls, z375, l1_375, l2_375, l4_375, l8_375, g110_375, g111_375, x114_375⟩ := x9
    obtain ⟨hl, hS, hD, hP, hfh_375_102, hfh_375_103, hfh_375_110, hfh_375_111, hfh_375_112, hfh_375_113, hfh_375_114, hfh_375_115, hlh_375, hrh_375, hsp⟩ := hJ9
    replace hl : lv_has ls 11 [(0, .ref h0), (1, .int l1_375), (2, .int l2_375), (4, .int l4_375), (8, .int l8_375)] := hl
    replace hS : va_S A s.heap H locs := hS
    replace hD : va_D A [(h0, .inr (13, z375)), (qf112, .inl (cf112, 6000, .inl f112)), (qf103, .inl (cf103, 8, .inl f103)), (qf102, .inl (cf102, 2048, .inl f102)), (qf110, .inl (cf110, 96, .inl g110_375)), (qf111, .inl (cf111, 96, .inl g111_375))] := hD
    replace hP : va_P (dC, dI) vwCl [(h0, .inr (13, z375)), (qf112, .inl (cf112, 6000, .inl f112)), (qf103, .inl (cf103, 8, .inl f103)), (qf102, .inl (cf102, 2048, .inl f102)), (qf110, .inl (cf110, 96, .inl g110_375)), (qf111, .inl (cf111, 96, .inl g111_375))] H := hP
    replace hsp : jn_vm_scanMethod_375 nf a1 a2 a3 v113 v114 v115 f112 f103 f102 f110 f111 l1_375 l2_375 l4_375 l8_375 g110_375 g111_375 x114_375 = some (r0, o110, o111, w114) := hsp
    show W _ _ _ _ _ _ _ _ _ _ H locs _ _ _ (F0 m 375 ls [])
    unfold jn_vm_scanMethod_375 at hsp
    try dsimp only at hsp
    refine lv_iinc (v := (l4_375 + 1)) (lv' := [(4, .int (l4_375 + 1)), (0, .ref h0), (1, .int l1_375), (2, .int l2_375), (8, .int l8_375)]) hx hb dX13_scanMethod_375 hl (k := 3) rfl rfl (by decide) rfl (fun ls hl => ?_)
    refine lv_iconst (v := 0) hx hb dX13_scanMethod_378 (by decide) ?_
    refine lv_istore (lv' := [(9, .int 0), (4, .int (l4_375 + 1)), (0, .ref h0), (1, .int l1_375), (2, .int l2_375), (8, .int l8_375)]) hx hb dX13_scanMethod_379 hl (by decide) rfl (fun ls hl => ?_)
    replace hl : lv_has ls 11 [(9, .int 0), (4, .int (l4_375 + 1)), (0, .ref h0), (1, .int l1_375), (2, .int l2_375), (8, .int l8_375)] := lv_sub hl [0, 1, 2, 3, 4, 5] rfl
    replace hP := hP.sub (ws' := [(h0, .inr (13, z375)), (qf112, .inl (cf112, 6000, .inl f112)), (qf103, .inl (cf103, 8, .inl f103)), (qf102, .inl (cf102, 2048, .inl f102)), (qf110, .inl (cf110, 96, .inl g110_375)), (qf111, .inl (cf111, 96, .inl g111_375))]) [0, 1, 2, 3, 4, 5] rfl
    replace hD := hD.sub (ws' := [(h0, .inr (13, z375)), (qf112, .inl (cf112, 6000, .inl f112)), (qf103, .inl (cf103, 8, .inl f103)), (qf102, .inl (cf102, 2048, .inl f102)), (qf110, .inl (cf110, 96, .inl g110_375)), (qf111, .inl (cf111, 96, .inl g111_375))]) [0, 1, 2, 3, 4, 5] (by decide) rfl
    replace hK := hK.sub (tys' := [(cf112, .int), (cf103, .int), (cf102, .int), (cf110, .int), (cf111, .int)]) [0, 1, 2, 3, 4] rfl
    obtain ⟨n_381, hn_381⟩ : ∃ z : Nat, z = nf := ⟨_, rfl⟩
    obtain ⟨l1_381, el1_381⟩ : ∃ z : Int32, z = l1_375 := ⟨_, rfl⟩
    obtain ⟨l2_381, el2_381⟩ : ∃ z : Int32, z = l2_375 := ⟨_, rfl⟩
    obtain ⟨l4_381, el4_381⟩ : ∃ z : Int32, z = (l4_375 + 1) := ⟨_, rfl⟩
    obtain ⟨l8_381, el8_381⟩ : ∃ z : Int32, z = l8_375 := ⟨_, rfl⟩
    obtain ⟨l9_381, el9_381⟩ : ∃ z : Int32, z = 0 := ⟨_, rfl⟩
    obtain ⟨g110_381, eg110_381⟩ : ∃ z : Nat → Int32, z = g110_375 := ⟨_, rfl⟩
    obtain ⟨g111_381, eg111_381⟩ : ∃ z : Nat → Int32, z = g111_375 := ⟨_, rfl⟩
    obtain ⟨x114_381, ex114_381⟩ : ∃ z : Int32, z = x114_375 := ⟨_, rfl⟩
    replace hsp : lp_vm_scanMethod_381 nf n_381 a1 a2 a3 v113 v114 v115 f112 f103 f102 f110 f111 l1_381 l2_381 l4_381 l8_381 l9_381 g110_381 g111_381 x114_381 = some (r0, o110, o111, w114) := by rw [hn_381, el1_381, el2_381, el4_381, el8_381, el9_381, eg110_381, eg111_381, ex114_381]; exact hsp
    replace hl : lv_has ls 11 [(9, .int l9_381), (4, .int l4_381), (0, .ref h0), (1, .int l1_381), (2, .int l2_381), (8, .int l8_381)] := by rw [el1_381, el2_381, el4_381, el8_381, el9_381]; exact hl
    obtain ⟨z381, ez381⟩ : ∃ z : List Value, z = z375 := ⟨_, rfl⟩
    have hfh_381_102 : z381[102]? = some (.ref qf102) := by rw [ez381]; exact hfh_375_102
    have hfh_381_103 : z381[103]? = some (.ref qf103) := by rw [ez381]; exact hfh_375_103
    have hfh_381_110 : z381[110]? = some (.ref qf110) := by rw [ez381]; exact hfh_375_110
    have hfh_381_111 : z381[111]? = some (.ref qf111) := by rw [ez381]; exact hfh_375_111
    have hfh_381_112 : z381[112]? = some (.ref qf112) := by rw [ez381]; exact hfh_375_112
    have hfh_381_113 : z381[113]? = some (.int v113) := by rw [ez381]; exact hfh_375_113
    have hfh_381_114 : z381[114]? = some (.int x114_381) := by rw [ez381, ex114_381]; exact hfh_375_114
    have hfh_381_115 : z381[115]? = some (.int v115) := by rw [ez381]; exact hfh_375_115
    have hlh_381 : z381.length = 155 := by rw [ez381]; exact hlh_375
    have hrh_381 : ∀ j : Nat, j ≠ 114 → z381[j]? = zs[j]? := by rw [ez381]; exact hrh_375
    replace hP : va_P (dC, dI) vwCl [(h0, .inr (13, z381)), (qf112, .inl (cf112, 6000, .inl f112)), (qf103, .inl (cf103, 8, .inl f103)), (qf102, .inl (cf102, 2048, .inl f102)), (qf110, .inl (cf110, 96, .inl g110_381)), (qf111, .inl (cf111, 96, .inl g111_381))] H := by rw [ez381, eg110_381, eg111_381]; exact hP
    replace hD : va_D A [(h0, .inr (13, z381)), (qf112, .inl (cf112, 6000, .inl f112)), (qf103, .inl (cf103, 8, .inl f103)), (qf102, .inl (cf102, 2048, .inl f102)), (qf110, .inl (cf110, 96, .inl g110_381)), (qf111, .inl (cf111, 96, .inl g111_381))] := by rw [ez381, eg110_381, eg111_381]; exact hD
    clear hn_381 ez381 el1_381 el2_381 el4_381 el8_381 el9_381 eg110_381 eg111_381 ex114_381
    try clear hlo
    try clear hH
    revert hsp
    revert hP
    revert hD
    revert hS
    revert hl
    revert hrh_381
    revert hlh_381
    revert hfh_381_115
    revert hfh_381_114
    revert hfh_381_113
    revert hfh_381_112
    revert hfh_381_111
    revert hfh_381_110
    revert hfh_381_103
    revert hfh_381_102
    revert x114_381
    revert g111_381
    revert g110_381
    revert l9_381
    revert l8_381
    revert l4_381
    revert l2_381
    revert l1_381
    revert z381
    revert ls
    revert locs
    revert H
    induction n_381 with
    | zero => intro H locs ls z381 l1_381 l2_381 l4_381 l8_381 l9_381 g110_381 g111_381 x114_381 hfh_381_102 hfh_381_103 hfh_381_110 hfh_381_111 hfh_381_112 hfh_381_113 hfh_381_114 hfh_381_115 hlh_381 hrh_381 hl hS hD hP hsp; unfold lp_vm_scanMethod_381 at hsp; cases hsp
    | succ n_381 ih_381 =>
      intro H locs ls z381 l1_381 l2_381 l4_381 l8_381 l9_381 g110_381 g111_381 x114_381 hfh_381_102 hfh_381_103 hfh_381_110 hfh_381_111 hfh_381_112 hfh_381_113 hfh_381_114 hfh_381_115 hlh_381 hrh_381 hl hS hD hP hsp
      unfold lp_vm_scanMethod_381 at hsp
      try dsimp only at hsp
      refine lv_iload hx hb dX13_scanMethod_381 (lv_at hl 0 rfl) ?_
      refine lv_iload hx hb dX13_scanMethod_383 (lv_at hl 5 rfl) ?_
      refine lv_icmp_ge (tgt := 444) hx hb dX13_scanMethod_385 (by decide) (fun c_56 => ?_) (fun c_56 => ?_)
      · rw [if_pos c_56] at hsp
        exact hj_444 (H, locs, ls, z381, l1_381, l2_381, l4_381, g110_381, g111_381, x114_381) ⟨lv_sub hl [2, 3, 4, 1] rfl, hS, hD.sub (ws' := [(h0, .inr (13, z381)), (qf112, .inl (cf112, 6000, .inl f112)), (qf103, .inl (cf103, 8, .inl f103)), (qf102, .inl (cf102, 2048, .inl f102)), (qf110, .inl (cf110, 96, .inl g110_381)), (qf111, .inl (cf111, 96, .inl g111_381))]) [0, 1, 2, 3, 4, 5] (by decide) rfl, hP.sub (ws' := [(h0, .inr (13, z381)), (qf112, .inl (cf112, 6000, .inl f112)), (qf103, .inl (cf103, 8, .inl f103)), (qf102, .inl (cf102, 2048, .inl f102)), (qf110, .inl (cf110, 96, .inl g110_381)), (qf111, .inl (cf111, 96, .inl g111_381))]) [0, 1, 2, 3, 4, 5] rfl, hfh_381_102, hfh_381_103, hfh_381_110, hfh_381_111, hfh_381_112, hfh_381_113, hfh_381_114, hfh_381_115, hlh_381, hrh_381, hsp⟩
      · rw [if_neg c_56] at hsp
        refine lv_aload_n hx hb dX13_scanMethod_388 rfl (lv_at hl 2 rfl) ?_
        refine va_get (D := (dC, dI)) (ci := 13) (v := .int x114_381) (C := RX13) (T := TX13) (N := 155) hx hb hts uV_h9_X13 hown hK hP 0 rfl rfl 114 (by decide) (hts (.fieldLink RX13 764 "ClassMillModel" "form" "I") mw_h9_251) (fun _ h9 => h9) hfh_381_114 dX13_scanMethod_389 ?_
        refine lv_iconst (v := (-1)) hx hb dX13_scanMethod_392 (by decide) ?_
        refine lv_icmp_ne (tgt := 444) hx hb dX13_scanMethod_393 (by decide) (fun c_57 => ?_) (fun c_57 => ?_)
        · rw [if_neg c_57] at hsp
          exact hj_444 (H, locs, ls, z381, l1_381, l2_381, l4_381, g110_381, g111_381, x114_381) ⟨lv_sub hl [2, 3, 4, 1] rfl, hS, hD.sub (ws' := [(h0, .inr (13, z381)), (qf112, .inl (cf112, 6000, .inl f112)), (qf103, .inl (cf103, 8, .inl f103)), (qf102, .inl (cf102, 2048, .inl f102)), (qf110, .inl (cf110, 96, .inl g110_381)), (qf111, .inl (cf111, 96, .inl g111_381))]) [0, 1, 2, 3, 4, 5] (by decide) rfl, hP.sub (ws' := [(h0, .inr (13, z381)), (qf112, .inl (cf112, 6000, .inl f112)), (qf103, .inl (cf103, 8, .inl f103)), (qf102, .inl (cf102, 2048, .inl f102)), (qf110, .inl (cf110, 96, .inl g110_381)), (qf111, .inl (cf111, 96, .inl g111_381))]) [0, 1, 2, 3, 4, 5] rfl, hfh_381_102, hfh_381_103, hfh_381_110, hfh_381_111, hfh_381_112, hfh_381_113, hfh_381_114, hfh_381_115, hlh_381, hrh_381, hsp⟩
        · rw [if_pos c_57] at hsp
          refine lv_aload_n hx hb dX13_scanMethod_396 rfl (lv_at hl 2 rfl) ?_
          refine lv_iload hx hb dX13_scanMethod_397 (lv_at hl 1 rfl) ?_
          refine lv_bipush (v := 6) hx hb dX13_scanMethod_399 (by decide) ?_
          refine lv_iadd hx hb dX13_scanMethod_401 ?_
          obtain ⟨⟨u21_0, u21_1⟩, hu_21, hsp⟩ := ox_bind hsp
          try dsimp only at hsp
          have hPc := hP.sub (ws' := [(h0, .inr (13, z381))]) [0] rfl
          have hDc := hD.sub (ws' := [(h0, .inr (13, z381))]) [0] (by decide) rfl
          have hKc := hK.sub (tys' := []) [] rfl
          have hFc := va_free (wc := [(h0, .inr (13, z381))]) hD hS hA [0] rfl
          refine va_calli (va_runV (As := [.int (l4_381 + 6)]) (rest := []) ⟨hx, hb, hml, hown, hts⟩ (tm_isByte l dC dI H.size h0 z381 ((l4_381 + 6)) v113 x114_381 nf u21_0 u21_1 hlh_381 hfh_381_113 hfh_381_114 hu_21) (cwV 1 hts gv_h9_47 rfl rfl rfl (by decide +kernel) ⟨Nat.le_of_ble_eq_true rfl, Nat.le_of_ble_eq_true rfl⟩) ⟨fun a U g mk q => by obtain ⟨q0, q1, qP, qK, qD⟩ := q; exact ⟨q0, q1, qP, va_K.moved (u := U) (U := U.calling g mk a) (Vm.Alike.refl U.vm) qK, qD⟩, va_recv hKc hPc (ci := 13) (q0 := 0) rfl rfl, fun U hU hW => ⟨rfl, by rw [hU], by rw [hU]; exact hPc, va_K.moved hW.alike hKc, hDc.weaken (fun _ _ _ _ => trivial)⟩⟩ rfl rfl hl.1 rfl (lv_room (Nat.le_of_ble_eq_true rfl)) dX13_scanMethod_402 ⟨Nat.le_of_ble_eq_true rfl, Nat.le_of_ble_eq_true rfl⟩) hS (fun q _ h => hFc q h) hFc ?_
          clear hS
          intro r_58 u t H1 locs ht hvm hw hB hz1 hk1 hS
          obtain ⟨z_21, rfl⟩ : ∃ z, z = u := ⟨_, rfl⟩
          obtain ⟨hP1, hK1, hD1⟩ := hB
          rw [ht] at hP1
          have hK1 := va_K.moved hvm.symm hK1
          try dsimp only at hw
          have hPD := va_join (wr := [(qf112, .inl (cf112, 6000, .inl f112)), (qf103, .inl (cf103, 8, .inl f103)), (qf102, .inl (cf102, 2048, .inl f102)), (qf110, .inl (cf110, 96, .inl g110_381)), (qf111, .inl (cf111, 96, .inl g111_381))]) (w1 := [(h0, .inr (13, z_21))]) hP hD [0] [1, 2, 3, 4, 5] rfl rfl (by decide) (by decide) hk1 hFc hP1 hD1
          clear hP hD
          obtain ⟨hP, hD⟩ := hPD
          replace hK := (hK.sub (tys' := [(cf112, .int), (cf103, .int), (cf102, .int), (cf110, .int), (cf111, .int)]) [0, 1, 2, 3, 4] rfl).app hK1
          clear hPc hDc hKc hFc hP1 hK1 hD1 hz1 hk1 ht hvm
          generalize H1 = H at hP hS ⊢
          replace hP : va_P (dC, dI) vwCl [(qf112, .inl (cf112, 6000, .inl f112)), (qf103, .inl (cf103, 8, .inl f103)), (qf102, .inl (cf102, 2048, .inl f102)), (qf110, .inl (cf110, 96, .inl g110_381)), (qf111, .inl (cf111, 96, .inl g111_381)), (h0, .inr (13, z_21))] H := hP
          replace hD : va_D A [(qf112, .inl (cf112, 6000, .inl f112)), (qf103, .inl (cf103, 8, .inl f103)), (qf102, .inl (cf102, 2048, .inl f102)), (qf110, .inl (cf110, 96, .inl g110_381)), (qf111, .inl (cf111, 96, .inl g111_381)), (h0, .inr (13, z_21))] := hD
          replace hK : va_K (dC, dI) vwCl [(cf112, .int), (cf103, .int), (cf102, .int), (cf110, .int), (cf111, .int)] s := hK
          obtain ⟨hwa_21, hln_21, hre_21, hch_21_114⟩ := hw
          have hfk_21_102 : z_21[102]? = some (.ref qf102) := (hre_21 102 (by decide)).trans (hfh_381_102)
          have hfk_21_103 : z_21[103]? = some (.ref qf103) := (hre_21 103 (by decide)).trans (hfh_381_103)
          have hfk_21_110 : z_21[110]? = some (.ref qf110) := (hre_21 110 (by decide)).trans (hfh_381_110)
          have hfk_21_111 : z_21[111]? = some (.ref qf111) := (hre_21 111 (by decide)).trans (hfh_381_111)
          have hfk_21_112 : z_21[112]? = some (.ref qf112) := (hre_21 112 (by decide)).trans (hfh_381_112)
          have hfk_21_113 : z_21[113]? = some (.int v113) := (hre_21 113 (by decide)).trans (hfh_381_113)
          have hfk_21_115 : z_21[115]? = some (.int v115) := (hre_21 115 (by decide)).trans (hfh_381_115)
          have hrq_21 : ∀ j : Nat, j ≠ 114 → z_21[j]? = zs[j]? := fun j g114 => (hre_21 j g114).trans (hrh_381 j g114)
          obtain ⟨rfl, hz_21⟩ := hwa_21
          rcases hz_21 with rfl | rfl
          · rw [if_pos rfl] at hsp
            refine lv_if_eq (tgt := 435) hx hb dX13_scanMethod_405 (by decide) (fun c_59 => ?_) (fun c_59 => (show False by revert c_59; decide).elim)
            refine lv_iinc (v := (l4_381 + 7)) (lv' := [(4, .int (l4_381 + 7)), (9, .int l9_381), (0, .ref h0), (1, .int l1_381), (2, .int l2_381), (8, .int l8_381)]) hx hb dX13_scanMethod_435 hl (k := 1) rfl rfl (by decide) rfl (fun ls hl => ?_)
            refine lv_iinc (v := (l9_381 + 1)) (lv' := [(9, .int (l9_381 + 1)), (4, .int (l4_381 + 7)), (0, .ref h0), (1, .int l1_381), (2, .int l2_381), (8, .int l8_381)]) hx hb dX13_scanMethod_438 hl (k := 1) rfl rfl (by decide) rfl (fun ls hl => ?_)
            refine lv_goto (tgt := 381) hx hb dX13_scanMethod_441 (by decide) ?_
            exact ih_381 H locs ls z_21 l1_381 l2_381 (l4_381 + 7) l8_381 (l9_381 + 1) g110_381 g111_381 u21_1 (hfk_21_102) (hfk_21_103) (hfk_21_110) (hfk_21_111) (hfk_21_112) (hfk_21_113) (hch_21_114) (hfk_21_115) hln_21 hrq_21 (lv_sub hl [0, 1, 2, 3, 4, 5] rfl) hS (hD.sub (ws' := [(h0, .inr (13, z_21)), (qf112, .inl (cf112, 6000, .inl f112)), (qf103, .inl (cf103, 8, .inl f103)), (qf102, .inl (cf102, 2048, .inl f102)), (qf110, .inl (cf110, 96, .inl g110_381)), (qf111, .inl (cf111, 96, .inl g111_381))]) [5, 0, 1, 2, 3, 4] (by decide) rfl) (hP.sub (ws' := [(h0, .inr (13, z_21)), (qf112, .inl (cf112, 6000, .inl f112)), (qf103, .inl (cf103, 8, .inl f103)), (qf102, .inl (cf102, 2048, .inl f102)), (qf110, .inl (cf110, 96, .inl g110_381)), (qf111, .inl (cf111, 96, .inl g111_381))]) [5, 0, 1, 2, 3, 4] rfl) hsp
          · rw [if_neg (by decide)] at hsp
            refine lv_if_eq (tgt := 435) hx hb dX13_scanMethod_405 (by decide) (fun c_60 => (show False by revert c_60; decide).elim) (fun c_60 => ?_)
            refine lv_aload_n hx hb dX13_scanMethod_408 rfl (lv_at hl 2 rfl) ?_
            refine lv_aload_n hx hb dX13_scanMethod_409 rfl (lv_at hl 2 rfl) ?_
            refine va_get (D := (dC, dI)) (ci := 13) (v := .ref qf112) (C := RX13) (T := TX13) (N := 155) hx hb hts uV_h9_X13 hown hK hP 5 rfl rfl 112 (by decide) (hts (.fieldLink RX13 245 "ClassMillModel" "look" "[I") mw_h9_242) (fun _ h9 => h9) hfk_21_112 dX13_scanMethod_410 ?_
            refine lv_iload hx hb dX13_scanMethod_413 (lv_at hl 1 rfl) ?_
            refine lv_bipush (v := 6) hx hb dX13_scanMethod_415 (by decide) ?_
            refine lv_iadd hx hb dX13_scanMethod_417 ?_
            obtain ⟨hi_61, hsp⟩ := ox_in hsp
            refine va_iald hx hb hK hP 0 0 rfl rfl (i := (l4_381 + 6)) hi_61 dX13_scanMethod_418 ?_
            refine lv_iconst (v := 1) hx hb dX13_scanMethod_419 (by decide) ?_
            obtain ⟨u22_0, hu_22, hsp⟩ := ox_bind hsp
            try dsimp only at hsp
            have hPc := hP.sub (ws' := [(h0, .inr (13, z_21)), (qf103, .inl (cf103, 8, .inl f103)), (qf102, .inl (cf102, 2048, .inl f102)), (qf112, .inl (cf112, 6000, .inl f112))]) [5, 1, 2, 0] rfl
            have hDc := hD.sub (ws' := [(h0, .inr (13, z_21)), (qf103, .inl (cf103, 8, .inl f103)), (qf102, .inl (cf102, 2048, .inl f102)), (qf112, .inl (cf112, 6000, .inl f112))]) [5, 1, 2, 0] (by decide) rfl
            have hKc := hK.sub (tys' := [(cf103, .int), (cf102, .int), (cf112, .int)]) [1, 2, 0] rfl
            have hFc := va_free (wc := [(h0, .inr (13, z_21)), (qf103, .inl (cf103, 8, .inl f103)), (qf102, .inl (cf102, 2048, .inl f102)), (qf112, .inl (cf112, 6000, .inl f112))]) hD hS hA [5, 1, 2, 0] rfl
            refine va_calli (va_runV (As := [.int (f112 ((l4_381 + 6) : Int32).toNatClampNeg), .int 1]) (rest := []) ⟨hx, hb, hml, hown, hts⟩ (tn_isClassConstant l dC dI H.size h0 z_21 ((f112 ((l4_381 + 6) : Int32).toNatClampNeg)) 1 qf102 qf103 qf112 v115 cf103 f103 cf102 f102 cf112 f112 nf u22_0 hln_21 hfk_21_102 hfk_21_103 hfk_21_112 hfk_21_115 hu_22) (cwV 2 hts gv_h9_51 rfl rfl rfl (by decide +kernel) ⟨Nat.le_of_ble_eq_true rfl, Nat.le_of_ble_eq_true rfl⟩) ⟨fun a U g mk q => by obtain ⟨q0, q1, qP, qK, qD⟩ := q; exact ⟨q0, q1, qP, va_K.moved (u := U) (U := U.calling g mk a) (Vm.Alike.refl U.vm) qK, qD⟩, va_recv hKc hPc (ci := 13) (q0 := 0) rfl rfl, fun U hU hW => ⟨rfl, by rw [hU], by rw [hU]; exact hPc, va_K.moved hW.alike hKc, hDc.weaken (fun _ _ _ _ => trivial)⟩⟩ rfl rfl hl.1 rfl (lv_room (Nat.le_of_ble_eq_true rfl)) dX13_scanMethod_420 ⟨Nat.le_of_ble_eq_true rfl, Nat.le_of_ble_eq_true rfl⟩) hS (fun q _ h => hFc q h) hFc ?_
            clear hS
            intro r_62 u t H1 locs ht hvm hw hB hz1 hk1 hS
            obtain ⟨z_22, rfl⟩ : ∃ z, z = u := ⟨_, rfl⟩
            obtain ⟨hP1, hK1, hD1⟩ := hB
            rw [ht] at hP1
            have hK1 := va_K.moved hvm.symm hK1
            try dsimp only at hw
            have hPD := va_join (wr := [(qf110, .inl (cf110, 96, .inl g110_381)), (qf111, .inl (cf111, 96, .inl g111_381))]) (w1 := [(h0, .inr (13, z_22)), (qf103, .inl (cf103, 8, .inl f103)), (qf102, .inl (cf102, 2048, .inl f102)), (qf112, .inl (cf112, 6000, .inl f112))]) hP hD [5, 1, 2, 0] [3, 4] rfl rfl (by decide) (by decide) hk1 hFc hP1 hD1
            clear hP hD
            obtain ⟨hP, hD⟩ := hPD
            replace hK := (hK.sub (tys' := [(cf110, .int), (cf111, .int)]) [3, 4] rfl).app hK1
            clear hPc hDc hKc hFc hP1 hK1 hD1 hz1 hk1 ht hvm
            generalize H1 = H at hP hS ⊢
            replace hP : va_P (dC, dI) vwCl [(qf110, .inl (cf110, 96, .inl g110_381)), (qf111, .inl (cf111, 96, .inl g111_381)), (h0, .inr (13, z_22)), (qf103, .inl (cf103, 8, .inl f103)), (qf102, .inl (cf102, 2048, .inl f102)), (qf112, .inl (cf112, 6000, .inl f112))] H := hP
            replace hD : va_D A [(qf110, .inl (cf110, 96, .inl g110_381)), (qf111, .inl (cf111, 96, .inl g111_381)), (h0, .inr (13, z_22)), (qf103, .inl (cf103, 8, .inl f103)), (qf102, .inl (cf102, 2048, .inl f102)), (qf112, .inl (cf112, 6000, .inl f112))] := hD
            replace hK : va_K (dC, dI) vwCl [(cf110, .int), (cf111, .int), (cf103, .int), (cf102, .int), (cf112, .int)] s := hK
            obtain ⟨hwa_22, hln_22, hre_22⟩ := hw
            have hfk_22_102 : z_22[102]? = some (.ref qf102) := (hre_22 102 ).trans (hfk_21_102)
            have hfk_22_103 : z_22[103]? = some (.ref qf103) := (hre_22 103 ).trans (hfk_21_103)
            have hfk_22_110 : z_22[110]? = some (.ref qf110) := (hre_22 110 ).trans (hfk_21_110)
            have hfk_22_111 : z_22[111]? = some (.ref qf111) := (hre_22 111 ).trans (hfk_21_111)
            have hfk_22_112 : z_22[112]? = some (.ref qf112) := (hre_22 112 ).trans (hfk_21_112)
            have hfk_22_113 : z_22[113]? = some (.int v113) := (hre_22 113 ).trans (hfk_21_113)
            have hfk_22_114 : z_22[114]? = some (.int u21_1) := (hre_22 114 ).trans (hch_21_114)
            have hfk_22_115 : z_22[115]? = some (.int v115) := (hre_22 115 ).trans (hfk_21_115)
            have hrq_22 : ∀ j : Nat, j ≠ 114 → z_22[j]? = zs[j]? := fun j g114 => (hre_22 j ).trans (hrq_21 j g114)
            obtain ⟨rfl, hz_22⟩ := hwa_22
            rcases hz_22 with rfl | rfl
            · rw [if_pos rfl] at hsp
              refine lv_if_ne (tgt := 435) hx hb dX13_scanMethod_423 (by decide) (fun c_63 => (show False by revert c_63; decide).elim) (fun c_63 => ?_)
              refine lv_aload_n hx hb dX13_scanMethod_426 rfl (lv_at hl 2 rfl) ?_
              refine lv_iload hx hb dX13_scanMethod_427 (lv_at hl 1 rfl) ?_
              refine lv_bipush (v := 6) hx hb dX13_scanMethod_429 (by decide) ?_
              refine lv_iadd hx hb dX13_scanMethod_431 ?_
              obtain ⟨u23_0, hu_23, hsp⟩ := ox_bind hsp
              try dsimp only at hsp
              have hPc := hP.sub (ws' := [(h0, .inr (13, z_22))]) [2] rfl
              have hDc := hD.sub (ws' := [(h0, .inr (13, z_22))]) [2] (by decide) rfl
              have hKc := hK.sub (tys' := []) [] rfl
              have hFc := va_free (wc := [(h0, .inr (13, z_22))]) hD hS hA [2] rfl
              refine va_callv (va_runV (As := [.int (l4_381 + 6)]) (rest := []) ⟨hx, hb, hml, hown, hts⟩ (tm_unfit l dC dI H.size h0 z_22 ((l4_381 + 6)) u21_1 nf u23_0 hln_22 hfk_22_114 hu_23) (cwV 1 hts gv_h9_48 rfl rfl rfl (by decide +kernel) ⟨Nat.le_of_ble_eq_true rfl, Nat.le_of_ble_eq_true rfl⟩) ⟨fun a U g mk q => by obtain ⟨q0, q1, qP, qK, qD⟩ := q; exact ⟨q0, q1, qP, va_K.moved (u := U) (U := U.calling g mk a) (Vm.Alike.refl U.vm) qK, qD⟩, va_recv hKc hPc (ci := 13) (q0 := 0) rfl rfl, fun U hU hW => ⟨rfl, by rw [hU], by rw [hU]; exact hPc, va_K.moved hW.alike hKc, hDc.weaken (fun _ _ _ _ => trivial)⟩⟩ rfl rfl hl.1 rfl (lv_room (Nat.le_of_ble_eq_true rfl)) dX13_scanMethod_432 ⟨Nat.le_of_ble_eq_true rfl, Nat.le_of_ble_eq_true rfl⟩) hS (fun q _ h => hFc q h) hFc ?_
              clear hS
              intro u t H1 locs ht hvm hw hB hz1 hk1 hS
              obtain ⟨z_23, rfl⟩ : ∃ z, z = u := ⟨_, rfl⟩
              obtain ⟨hP1, hK1, hD1⟩ := hB
              rw [ht] at hP1
              have hK1 := va_K.moved hvm.symm hK1
              try dsimp only at hw
              have hPD := va_join (wr := [(qf110, .inl (cf110, 96, .inl g110_381)), (qf111, .inl (cf111, 96, .inl g111_381)), (qf103, .inl (cf103, 8, .inl f103)), (qf102, .inl (cf102, 2048, .inl f102)), (qf112, .inl (cf112, 6000, .inl f112))]) (w1 := [(h0, .inr (13, z_23))]) hP hD [2] [0, 1, 3, 4, 5] rfl rfl (by decide) (by decide) hk1 hFc hP1 hD1
              clear hP hD
              obtain ⟨hP, hD⟩ := hPD
              replace hK := (hK.sub (tys' := [(cf110, .int), (cf111, .int), (cf103, .int), (cf102, .int), (cf112, .int)]) [0, 1, 2, 3, 4] rfl).app hK1
              clear hPc hDc hKc hFc hP1 hK1 hD1 hz1 hk1 ht hvm
              generalize H1 = H at hP hS ⊢
              replace hP : va_P (dC, dI) vwCl [(qf110, .inl (cf110, 96, .inl g110_381)), (qf111, .inl (cf111, 96, .inl g111_381)), (qf103, .inl (cf103, 8, .inl f103)), (qf102, .inl (cf102, 2048, .inl f102)), (qf112, .inl (cf112, 6000, .inl f112)), (h0, .inr (13, z_23))] H := hP
              replace hD : va_D A [(qf110, .inl (cf110, 96, .inl g110_381)), (qf111, .inl (cf111, 96, .inl g111_381)), (qf103, .inl (cf103, 8, .inl f103)), (qf102, .inl (cf102, 2048, .inl f102)), (qf112, .inl (cf112, 6000, .inl f112)), (h0, .inr (13, z_23))] := hD
              replace hK : va_K (dC, dI) vwCl [(cf110, .int), (cf111, .int), (cf103, .int), (cf102, .int), (cf112, .int)] s := hK
              obtain ⟨hwa_23, hln_23, hre_23, hch_23_114⟩ := hw
              have hfk_23_102 : z_23[102]? = some (.ref qf102) := (hre_23 102 (by decide)).trans (hfk_22_102)
              have hfk_23_103 : z_23[103]? = some (.ref qf103) := (hre_23 103 (by decide)).trans (hfk_22_103)
              have hfk_23_110 : z_23[110]? = some (.ref qf110) := (hre_23 110 (by decide)).trans (hfk_22_110)
              have hfk_23_111 : z_23[111]? = some (.ref qf111) := (hre_23 111 (by decide)).trans (hfk_22_111)
              have hfk_23_112 : z_23[112]? = some (.ref qf112) := (hre_23 112 (by decide)).trans (hfk_22_112)
              have hfk_23_113 : z_23[113]? = some (.int v113) := (hre_23 113 (by decide)).trans (hfk_22_113)
              have hfk_23_115 : z_23[115]? = some (.int v115) := (hre_23 115 (by decide)).trans (hfk_22_115)
              have hrq_23 : ∀ j : Nat, j ≠ 114 → z_23[j]? = zs[j]? := fun j g114 => (hre_23 j g114).trans (hrq_22 j g114)
              refine lv_iinc (v := (l4_381 + 7)) (lv' := [(4, .int (l4_381 + 7)), (9, .int l9_381), (0, .ref h0), (1, .int l1_381), (2, .int l2_381), (8, .int l8_381)]) hx hb dX13_scanMethod_435 hl (k := 1) rfl rfl (by decide) rfl (fun ls hl => ?_)
              refine lv_iinc (v := (l9_381 + 1)) (lv' := [(9, .int (l9_381 + 1)), (4, .int (l4_381 + 7)), (0, .ref h0), (1, .int l1_381), (2, .int l2_381), (8, .int l8_381)]) hx hb dX13_scanMethod_438 hl (k := 1) rfl rfl (by decide) rfl (fun ls hl => ?_)
              refine lv_goto (tgt := 381) hx hb dX13_scanMethod_441 (by decide) ?_
              exact ih_381 H locs ls z_23 l1_381 l2_381 (l4_381 + 7) l8_381 (l9_381 + 1) g110_381 g111_381 u23_0 (hfk_23_102) (hfk_23_103) (hfk_23_110) (hfk_23_111) (hfk_23_112) (hfk_23_113) (hch_23_114) (hfk_23_115) hln_23 hrq_23 (lv_sub hl [0, 1, 2, 3, 4, 5] rfl) hS (hD.sub (ws' := [(h0, .inr (13, z_23)), (qf112, .inl (cf112, 6000, .inl f112)), (qf103, .inl (cf103, 8, .inl f103)), (qf102, .inl (cf102, 2048, .inl f102)), (qf110, .inl (cf110, 96, .inl g110_381)), (qf111, .inl (cf111, 96, .inl g111_381))]) [5, 4, 2, 3, 0, 1] (by decide) rfl) (hP.sub (ws' := [(h0, .inr (13, z_23)), (qf112, .inl (cf112, 6000, .inl f112)), (qf103, .inl (cf103, 8, .inl f103)), (qf102, .inl (cf102, 2048, .inl f102)), (qf110, .inl (cf110, 96, .inl g110_381)), (qf111, .inl (cf111, 96, .inl g111_381))]) [5, 4, 2, 3, 0, 1] rfl) hsp
            · rw [if_neg (by decide)] at hsp
              refine lv_if_ne (tgt := 435) hx hb dX13_scanMethod_423 (by decide) (fun c_64 => ?_) (fun c_64 => (show False by revert c_64; decide).elim)
              refine lv_iinc (v := (l4_381 + 7)) (lv' := [(4, .int (l4_381 + 7)), (9, .int l9_381), (0, .ref h0), (1, .int l1_381), (2, .int l2_381), (8, .int l8_381)]) hx hb dX13_scanMethod_435 hl (k := 1) rfl rfl (by decide) rfl (fun ls hl => ?_)
              refine lv_iinc (v := (l9_381 + 1)) (lv' := [(9, .int (l9_381 + 1)), (4, .int (l4_381 + 7)), (0, .ref h0), (1, .int l1_381), (2, .int l2_381), (8, .int l8_381)]) hx hb dX13_scanMethod_438 hl (k := 1) rfl rfl (by decide) rfl (fun ls hl => ?_)
              refine lv_goto (tgt := 381) hx hb dX13_scanMethod_441 (by decide) ?_
              exact ih_381 H locs ls z_22 l1_381 l2_381 (l4_381 + 7) l8_381 (l9_381 + 1) g110_381 g111_381 u21_1 (hfk_22_102) (hfk_22_103) (hfk_22_110) (hfk_22_111) (hfk_22_112) (hfk_22_113) (hfk_22_114) (hfk_22_115) hln_22 hrq_22 (lv_sub hl [0, 1, 2, 3, 4, 5] rfl) hS (hD.sub (ws' := [(h0, .inr (13, z_22)), (qf112, .inl (cf112, 6000, .inl f112)), (qf103, .inl (cf103, 8, .inl f103)), (qf102, .inl (cf102, 2048, .inl f102)), (qf110, .inl (cf110, 96, .inl g110_381)), (qf111, .inl (cf111, 96, .inl g111_381))]) [2, 5, 3, 4, 0, 1] (by decide) rfl) (hP.sub (ws' := [(h0, .inr (13, z_22)), (qf112, .inl (cf112, 6000, .inl f112)), (qf103, .inl (cf103, 8, .inl f103)), (qf102, .inl (cf102, 2048, .inl f102)), (qf110, .inl (cf110, 96, .inl g110_381)), (qf111, .inl (cf111, 96, .inl g111_381))]) [2, 5, 3, 4, 0, 1] rfl) hsp
  intro hj_375
  refine jn_use (α := Heap × List Loc × Array Slot × List Value × Int32 × Int32 × Int32 × (Nat → Int32) × (Nat → Int32) × Int32) (fun x9 => x9.1) (fun x9 => x9.2.1) (fun x9 => F0 m 328 x9.2.2.1 []) (fun x9 => match x9 with | (H, locs, ls, z328, l1_328, l2_328, l4_328, g110_328, g111_328, x114_328) => lv_has ls 11 [(0, .ref h0), (1, .int l1_328), (2, .int l2_328), (4, .int l4_328)] ∧ va_S A s.heap H locs ∧ va_D A [(h0, .inr (13, z328)), (qf112, .inl (cf112, 6000, .inl f112)), (qf103, .inl (cf103, 8, .inl f103)), (qf102, .inl (cf102, 2048, .inl f102)), (qf110, .inl (cf110, 96, .inl g110_328)), (qf111, .inl (cf111, 96, .inl g111_328))] ∧ va_P (dC, dI) vwCl [(h0, .inr (13, z328)), (qf112, .inl (cf112, 6000, .inl f112)), (qf103, .inl (cf103, 8, .inl f103)), (qf102, .inl (cf102, 2048, .inl f102)), (qf110, .inl (cf110, 96, .inl g110_328)), (qf111, .inl (cf111, 96, .inl g111_328))] H ∧ z328[102]? = some (.ref qf102) ∧ z328[103]? = some (.ref qf103) ∧ z328[110]? = some (.ref qf110) ∧ z328[111]? = some (.ref qf111) ∧ z328[112]? = some (.ref qf112) ∧ z328[113]? = some (.int v113) ∧ z328[114]? = some (.int x114_328) ∧ z328[115]? = some (.int v115) ∧ z328.length = 155 ∧ (∀ j : Nat, j ≠ 114 → z328[j]? = zs[j]?) ∧ jn_vm_scanMethod_328 nf a1 a2 a3 v113 v114 v115 f112 f103 f102 f110 f111 l1_328 l2_328 l4_328 g110_328 g111_328 x114_328 = some (r0, o110, o111, w114)) ?_ ?_
  · intro x9 hJ9
    obtain ⟨H, locs, ls, z328, l1_328, l2_328, l4_328, g110_328, g111_328, x114_328⟩ := x9
    obtain ⟨hl, hS, hD, hP, hfh_328_102, hfh_328_103, hfh_328_110, hfh_328_111, hfh_328_112, hfh_328_113, hfh_328_114, hfh_328_115, hlh_328, hrh_328, hsp⟩ := hJ9
    replace hl : lv_has ls 11 [(0, .ref h0), (1, .int l1_328), (2, .int l2_328), (4, .int l4_328)] := hl
    replace hS : va_S A s.heap H locs := hS
    replace hD : va_D A [(h0, .inr (13, z328)), (qf112, .inl (cf112, 6000, .inl f112)), (qf103, .inl (cf103, 8, .inl f103)), (qf102, .inl (cf102, 2048, .inl f102)), (qf110, .inl (cf110, 96, .inl g110_328)), (qf111, .inl (cf111, 96, .inl g111_328))] := hD
    replace hP : va_P (dC, dI) vwCl [(h0, .inr (13, z328)), (qf112, .inl (cf112, 6000, .inl f112)), (qf103, .inl (cf103, 8, .inl f103)), (qf102, .inl (cf102, 2048, .inl f102)), (qf110, .inl (cf110, 96, .inl g110_328)), (qf111, .inl (cf111, 96, .inl g111_328))] H := hP
    replace hsp : jn_vm_scanMethod_328 nf a1 a2 a3 v113 v114 v115 f112 f103 f102 f110 f111 l1_328 l2_328 l4_328 g110_328 g111_328 x114_328 = some (r0, o110, o111, w114) := hsp
    show W _ _ _ _ _ _ _ _ _ _ H locs _ _ _ (F0 m 328 ls [])
    unfold jn_vm_scanMethod_328 at hsp
    try dsimp only at hsp
    refine lv_aload_n hx hb dX13_scanMethod_328 rfl (lv_at hl 0 rfl) ?_
    refine lv_iload hx hb dX13_scanMethod_329 (lv_at hl 3 rfl) ?_
    obtain ⟨⟨u19_0, u19_1⟩, hu_19, hsp⟩ := ox_bind hsp
    try dsimp only at hsp
    have hPc := hP.sub (ws' := [(h0, .inr (13, z328))]) [0] rfl
    have hDc := hD.sub (ws' := [(h0, .inr (13, z328))]) [0] (by decide) rfl
    have hKc := hK.sub (tys' := []) [] rfl
    have hFc := va_free (wc := [(h0, .inr (13, z328))]) hD hS hA [0] rfl
    refine va_calli (va_runV (As := [.int l4_328]) (rest := []) ⟨hx, hb, hml, hown, hts⟩ (tm_isByte l dC dI H.size h0 z328 l4_328 v113 x114_328 nf u19_0 u19_1 hlh_328 hfh_328_113 hfh_328_114 hu_19) (cwV 1 hts gv_h9_47 rfl rfl rfl (by decide +kernel) ⟨Nat.le_of_ble_eq_true rfl, Nat.le_of_ble_eq_true rfl⟩) ⟨fun a U g mk q => by obtain ⟨q0, q1, qP, qK, qD⟩ := q; exact ⟨q0, q1, qP, va_K.moved (u := U) (U := U.calling g mk a) (Vm.Alike.refl U.vm) qK, qD⟩, va_recv hKc hPc (ci := 13) (q0 := 0) rfl rfl, fun U hU hW => ⟨rfl, by rw [hU], by rw [hU]; exact hPc, va_K.moved hW.alike hKc, hDc.weaken (fun _ _ _ _ => trivial)⟩⟩ rfl rfl hl.1 rfl (lv_room (Nat.le_of_ble_eq_true rfl)) dX13_scanMethod_331 ⟨Nat.le_of_ble_eq_true rfl, Nat.le_of_ble_eq_true rfl⟩) hS (fun q _ h => hFc q h) hFc ?_
    clear hS
    intro r_50 u t H1 locs ht hvm hw hB hz1 hk1 hS
    obtain ⟨z_19, rfl⟩ : ∃ z, z = u := ⟨_, rfl⟩
    obtain ⟨hP1, hK1, hD1⟩ := hB
    rw [ht] at hP1
    have hK1 := va_K.moved hvm.symm hK1
    try dsimp only at hw
    have hPD := va_join (wr := [(qf112, .inl (cf112, 6000, .inl f112)), (qf103, .inl (cf103, 8, .inl f103)), (qf102, .inl (cf102, 2048, .inl f102)), (qf110, .inl (cf110, 96, .inl g110_328)), (qf111, .inl (cf111, 96, .inl g111_328))]) (w1 := [(h0, .inr (13, z_19))]) hP hD [0] [1, 2, 3, 4, 5] rfl rfl (by decide) (by decide) hk1 hFc hP1 hD1
    clear hP hD
    obtain ⟨hP, hD⟩ := hPD
    replace hK := (hK.sub (tys' := [(cf112, .int), (cf103, .int), (cf102, .int), (cf110, .int), (cf111, .int)]) [0, 1, 2, 3, 4] rfl).app hK1
    clear hPc hDc hKc hFc hP1 hK1 hD1 hz1 hk1 ht hvm
    generalize H1 = H at hP hS ⊢
    replace hP : va_P (dC, dI) vwCl [(qf112, .inl (cf112, 6000, .inl f112)), (qf103, .inl (cf103, 8, .inl f103)), (qf102, .inl (cf102, 2048, .inl f102)), (qf110, .inl (cf110, 96, .inl g110_328)), (qf111, .inl (cf111, 96, .inl g111_328)), (h0, .inr (13, z_19))] H := hP
    replace hD : va_D A [(qf112, .inl (cf112, 6000, .inl f112)), (qf103, .inl (cf103, 8, .inl f103)), (qf102, .inl (cf102, 2048, .inl f102)), (qf110, .inl (cf110, 96, .inl g110_328)), (qf111, .inl (cf111, 96, .inl g111_328)), (h0, .inr (13, z_19))] := hD
    replace hK : va_K (dC, dI) vwCl [(cf112, .int), (cf103, .int), (cf102, .int), (cf110, .int), (cf111, .int)] s := hK
    obtain ⟨hwa_19, hln_19, hre_19, hch_19_114⟩ := hw
    have hfk_19_102 : z_19[102]? = some (.ref qf102) := (hre_19 102 (by decide)).trans (hfh_328_102)
    have hfk_19_103 : z_19[103]? = some (.ref qf103) := (hre_19 103 (by decide)).trans (hfh_328_103)
    have hfk_19_110 : z_19[110]? = some (.ref qf110) := (hre_19 110 (by decide)).trans (hfh_328_110)
    have hfk_19_111 : z_19[111]? = some (.ref qf111) := (hre_19 111 (by decide)).trans (hfh_328_111)
    have hfk_19_112 : z_19[112]? = some (.ref qf112) := (hre_19 112 (by decide)).trans (hfh_328_112)
    have hfk_19_113 : z_19[113]? = some (.int v113) := (hre_19 113 (by decide)).trans (hfh_328_113)
    have hfk_19_115 : z_19[115]? = some (.int v115) := (hre_19 115 (by decide)).trans (hfh_328_115)
    have hrq_19 : ∀ j : Nat, j ≠ 114 → z_19[j]? = zs[j]? := fun j g114 => (hre_19 j g114).trans (hrh_328 j g114)
    obtain ⟨rfl, hz_19⟩ := hwa_19
    rcases hz_19 with rfl | rfl
    · rw [if_pos rfl] at hsp
      refine lv_if_ne (tgt := 340) hx hb dX13_scanMethod_334 (by decide) (fun c_51 => (show False by revert c_51; decide).elim) (fun c_51 => ?_)
      refine lv_iload hx hb dX13_scanMethod_337 (lv_at hl 3 rfl) ?_
      have hr0 := Option.some.inj hsp
      clear hsp
      obtain ⟨hq0, hr1⟩ := Prod.mk.inj hr0
      clear hr0
      obtain ⟨hq1, hr2⟩ := Prod.mk.inj hr1
      clear hr1
      obtain ⟨hq2, hr3⟩ := Prod.mk.inj hr2
      clear hr2
      subst hq0
      subst hq1
      subst hq2
      subst hr3
      have hP9 := hP.sub (ws' := [(h0, .inr (13, z_19)), (qf112, .inl (cf112, 6000, .inl f112)), (qf103, .inl (cf103, 8, .inl f103)), (qf102, .inl (cf102, 2048, .inl f102)), (qf110, .inl (cf110, 96, .inl g110_328)), (qf111, .inl (cf111, 96, .inl g111_328))]) [5, 0, 1, 2, 3, 4] rfl
      have hD9 := hD.sub (ws' := [(h0, .inr (13, z_19)), (qf112, .inl (cf112, 6000, .inl f112)), (qf103, .inl (cf103, 8, .inl f103)), (qf102, .inl (cf102, 2048, .inl f102)), (qf110, .inl (cf110, 96, .inl g110_328)), (qf111, .inl (cf111, 96, .inl g111_328))]) [5, 0, 1, 2, 3, 4] (by decide) rfl
      have hK9 := hK.sub (tys' := [(cf112, .int), (cf103, .int), (cf102, .int), (cf110, .int), (cf111, .int)]) [0, 1, 2, 3, 4] rfl
      exact W.iret hx hb hr (fun t ht hW => ⟨⟨(l4_328), (z_19), rfl, ⟨rfl, hln_19, hrq_19, hch_19_114⟩, by rw [ht]; exact hP9, va_K.moved hW.alike hK9, hD9⟩, hS.F ht⟩) hS.2.2 dX13_scanMethod_339
    · rw [if_neg (by decide)] at hsp
      refine lv_if_ne (tgt := 340) hx hb dX13_scanMethod_334 (by decide) (fun c_52 => ?_) (fun c_52 => (show False by revert c_52; decide).elim)
      refine lv_aload_n hx hb dX13_scanMethod_340 rfl (lv_at hl 0 rfl) ?_
      refine va_get (D := (dC, dI)) (ci := 13) (v := .ref qf110) (C := RX13) (T := TX13) (N := 155) hx hb hts uV_h9_X13 hown hK hP 5 rfl rfl 110 (by decide) (hts (.fieldLink RX13 239 "ClassMillModel" "handlersAt" "[I") mw_h9_283) (fun _ h9 => h9) hfk_19_110 dX13_scanMethod_341 ?_
      refine lv_bipush (v := 12) hx hb dX13_scanMethod_344 (by decide) ?_
      refine lv_iload_n hx hb dX13_scanMethod_346 rfl (lv_at hl 1 rfl) ?_
      refine lv_imul hx hb dX13_scanMethod_347 ?_
      refine lv_iload_n hx hb dX13_scanMethod_348 rfl (lv_at hl 2 rfl) ?_
      refine lv_iadd hx hb dX13_scanMethod_349 ?_
      refine lv_iload hx hb dX13_scanMethod_350 (lv_at hl 3 rfl) ?_
      obtain ⟨hi_53, hsp⟩ := ox_in hsp
      refine va_iast hx hb hK hP hD hS 3 3 rfl rfl (i := ((12 * l1_328) + l2_328)) (x := l4_328) hi_53 dX13_scanMethod_352 ?_
      clear hP hD hS
      intro H locs hP hD hS
      replace hP : va_P (dC, dI) vwCl [(qf112, .inl (cf112, 6000, .inl f112)), (qf103, .inl (cf103, 8, .inl f103)), (qf102, .inl (cf102, 2048, .inl f102)), (qf110, .inl (cf110, 96, .inl (upd g110_328 (((12 * l1_328) + l2_328) : Int32).toNatClampNeg l4_328))), (qf111, .inl (cf111, 96, .inl g111_328)), (h0, .inr (13, z_19))] H := hP
      replace hD : va_D A [(qf112, .inl (cf112, 6000, .inl f112)), (qf103, .inl (cf103, 8, .inl f103)), (qf102, .inl (cf102, 2048, .inl f102)), (qf110, .inl (cf110, 96, .inl (upd g110_328 (((12 * l1_328) + l2_328) : Int32).toNatClampNeg l4_328))), (qf111, .inl (cf111, 96, .inl g111_328)), (h0, .inr (13, z_19))] := hD
      refine lv_aload_n hx hb dX13_scanMethod_353 rfl (lv_at hl 0 rfl) ?_
      refine va_get (D := (dC, dI)) (ci := 13) (v := .ref qf112) (C := RX13) (T := TX13) (N := 155) hx hb hts uV_h9_X13 hown hK hP 5 rfl rfl 112 (by decide) (hts (.fieldLink RX13 245 "ClassMillModel" "look" "[I") mw_h9_242) (fun _ h9 => h9) hfk_19_112 dX13_scanMethod_354 ?_
      refine lv_iload hx hb dX13_scanMethod_357 (lv_at hl 3 rfl) ?_
      obtain ⟨hi_54, hsp⟩ := ox_in hsp
      refine va_iald hx hb hK hP 0 0 rfl rfl (i := l4_328) hi_54 dX13_scanMethod_359 ?_
      refine lv_istore (lv' := [(8, .int (f112 (l4_328 : Int32).toNatClampNeg)), (0, .ref h0), (1, .int l1_328), (2, .int l2_328), (4, .int l4_328)]) hx hb dX13_scanMethod_360 hl (by decide) rfl (fun ls hl => ?_)
      refine lv_iload hx hb dX13_scanMethod_362 (lv_at hl 0 rfl) ?_
      refine lv_bipush (v := 20) hx hb dX13_scanMethod_364 (by decide) ?_
      refine lv_icmp_le (tgt := 375) hx hb dX13_scanMethod_366 (by decide) (fun c_55 => ?_) (fun c_55 => ?_)
      · rw [if_pos c_55] at hsp
        exact hj_375 (H, locs, ls, z_19, l1_328, l2_328, l4_328, (f112 (l4_328 : Int32).toNatClampNeg), (upd g110_328 (((12 * l1_328) + l2_328) : Int32).toNatClampNeg l4_328), g111_328, u19_1) ⟨lv_sub hl [1, 2, 3, 4, 0] rfl, hS, hD.sub (ws' := [(h0, .inr (13, z_19)), (qf112, .inl (cf112, 6000, .inl f112)), (qf103, .inl (cf103, 8, .inl f103)), (qf102, .inl (cf102, 2048, .inl f102)), (qf110, .inl (cf110, 96, .inl (upd g110_328 (((12 * l1_328) + l2_328) : Int32).toNatClampNeg l4_328))), (qf111, .inl (cf111, 96, .inl g111_328))]) [5, 0, 1, 2, 3, 4] (by decide) rfl, hP.sub (ws' := [(h0, .inr (13, z_19)), (qf112, .inl (cf112, 6000, .inl f112)), (qf103, .inl (cf103, 8, .inl f103)), (qf102, .inl (cf102, 2048, .inl f102)), (qf110, .inl (cf110, 96, .inl (upd g110_328 (((12 * l1_328) + l2_328) : Int32).toNatClampNeg l4_328))), (qf111, .inl (cf111, 96, .inl g111_328))]) [5, 0, 1, 2, 3, 4] rfl, hfk_19_102, hfk_19_103, hfk_19_110, hfk_19_111, hfk_19_112, hfk_19_113, hch_19_114, hfk_19_115, hln_19, hrq_19, hsp⟩
      · rw [if_neg c_55] at hsp
        refine lv_aload_n hx hb dX13_scanMethod_369 rfl (lv_at hl 1 rfl) ?_
        refine lv_iload hx hb dX13_scanMethod_370 (lv_at hl 4 rfl) ?_
        obtain ⟨u20_0, hu_20, hsp⟩ := ox_bind hsp
        try dsimp only at hsp
        have hPc := hP.sub (ws' := [(h0, .inr (13, z_19))]) [5] rfl
        have hDc := hD.sub (ws' := [(h0, .inr (13, z_19))]) [5] (by decide) rfl
        have hKc := hK.sub (tys' := []) [] rfl
        have hFc := va_free (wc := [(h0, .inr (13, z_19))]) hD hS hA [5] rfl
        refine va_callv (va_runV (As := [.int l4_328]) (rest := []) ⟨hx, hb, hml, hown, hts⟩ (tm_unfit l dC dI H.size h0 z_19 l4_328 u19_1 nf u20_0 hln_19 hch_19_114 hu_20) (cwV 1 hts gv_h9_48 rfl rfl rfl (by decide +kernel) ⟨Nat.le_of_ble_eq_true rfl, Nat.le_of_ble_eq_true rfl⟩) ⟨fun a U g mk q => by obtain ⟨q0, q1, qP, qK, qD⟩ := q; exact ⟨q0, q1, qP, va_K.moved (u := U) (U := U.calling g mk a) (Vm.Alike.refl U.vm) qK, qD⟩, va_recv hKc hPc (ci := 13) (q0 := 0) rfl rfl, fun U hU hW => ⟨rfl, by rw [hU], by rw [hU]; exact hPc, va_K.moved hW.alike hKc, hDc.weaken (fun _ _ _ _ => trivial)⟩⟩ rfl rfl hl.1 rfl (lv_room (Nat.le_of_ble_eq_true rfl)) dX13_scanMethod_372 ⟨Nat.le_of_ble_eq_true rfl, Nat.le_of_ble_eq_true rfl⟩) hS (fun q _ h => hFc q h) hFc ?_
        clear hS
        intro u t H1 locs ht hvm hw hB hz1 hk1 hS
        obtain ⟨z_20, rfl⟩ : ∃ z, z = u := ⟨_, rfl⟩
        obtain ⟨hP1, hK1, hD1⟩ := hB
        rw [ht] at hP1
        have hK1 := va_K.moved hvm.symm hK1
        try dsimp only at hw
        have hPD := va_join (wr := [(qf112, .inl (cf112, 6000, .inl f112)), (qf103, .inl (cf103, 8, .inl f103)), (qf102, .inl (cf102, 2048, .inl f102)), (qf110, .inl (cf110, 96, .inl (upd g110_328 (((12 * l1_328) + l2_328) : Int32).toNatClampNeg l4_328))), (qf111, .inl (cf111, 96, .inl g111_328))]) (w1 := [(h0, .inr (13, z_20))]) hP hD [5] [0, 1, 2, 3, 4] rfl rfl (by decide) (by decide) hk1 hFc hP1 hD1
        clear hP hD
        obtain ⟨hP, hD⟩ := hPD
        replace hK := (hK.sub (tys' := [(cf112, .int), (cf103, .int), (cf102, .int), (cf110, .int), (cf111, .int)]) [0, 1, 2, 3, 4] rfl).app hK1
        clear hPc hDc hKc hFc hP1 hK1 hD1 hz1 hk1 ht hvm
        generalize H1 = H at hP hS ⊢
        replace hP : va_P (dC, dI) vwCl [(qf112, .inl (cf112, 6000, .inl f112)), (qf103, .inl (cf103, 8, .inl f103)), (qf102, .inl (cf102, 2048, .inl f102)), (qf110, .inl (cf110, 96, .inl (upd g110_328 (((12 * l1_328) + l2_328) : Int32).toNatClampNeg l4_328))), (qf111, .inl (cf111, 96, .inl g111_328)), (h0, .inr (13, z_20))] H := hP
        replace hD : va_D A [(qf112, .inl (cf112, 6000, .inl f112)), (qf103, .inl (cf103, 8, .inl f103)), (qf102, .inl (cf102, 2048, .inl f102)), (qf110, .inl (cf110, 96, .inl (upd g110_328 (((12 * l1_328) + l2_328) : Int32).toNatClampNeg l4_328))), (qf111, .inl (cf111, 96, .inl g111_328)), (h0, .inr (13, z_20))] := hD
        replace hK : va_K (dC, dI) vwCl [(cf112, .int), (cf103, .int), (cf102, .int), (cf110, .int), (cf111, .int)] s := hK
        obtain ⟨hwa_20, hln_20, hre_20, hch_20_114⟩ := hw
        have hfk_20_102 : z_20[102]? = some (.ref qf102) := (hre_20 102 (by decide)).trans (hfk_19_102)
        have hfk_20_103 : z_20[103]? = some (.ref qf103) := (hre_20 103 (by decide)).trans (hfk_19_103)
        have hfk_20_110 : z_20[110]? = some (.ref qf110) := (hre_20 110 (by decide)).trans (hfk_19_110)
        have hfk_20_111 : z_20[111]? = some (.ref qf111) := (hre_20 111 (by decide)).trans (hfk_19_111)
        have hfk_20_112 : z_20[112]? = some (.ref qf112) := (hre_20 112 (by decide)).trans (hfk_19_112)
        have hfk_20_113 : z_20[113]? = some (.int v113) := (hre_20 113 (by decide)).trans (hfk_19_113)
        have hfk_20_115 : z_20[115]? = some (.int v115) := (hre_20 115 (by decide)).trans (hfk_19_115)
        have hrq_20 : ∀ j : Nat, j ≠ 114 → z_20[j]? = zs[j]? := fun j g114 => (hre_20 j g114).trans (hrq_19 j g114)
        exact hj_375 (H, locs, ls, z_20, l1_328, l2_328, l4_328, (f112 (l4_328 : Int32).toNatClampNeg), (upd g110_328 (((12 * l1_328) + l2_328) : Int32).toNatClampNeg l4_328), g111_328, u20_0) ⟨lv_sub hl [1, 2, 3, 4, 0] rfl, hS, hD.sub (ws' := [(h0, .inr (13, z_20)), (qf112, .inl (cf112, 6000, .inl f112)), (qf103, .inl (cf103, 8, .inl f103)), (qf102, .inl (cf102, 2048, .inl f102)), (qf110, .inl (cf110, 96, .inl (upd g110_328 (((12 * l1_328) + l2_328) : Int32).toNatClampNeg l4_328))), (qf111, .inl (cf111, 96, .inl g111_328))]) [5, 0, 1, 2, 3, 4] (by decide) rfl, hP.sub (ws' := [(h0, .inr (13, z_20)), (qf112, .inl (cf112, 6000, .inl f112)), (qf103, .inl (cf103, 8, .inl f103)), (qf102, .inl (cf102, 2048, .inl f102)), (qf110, .inl (cf110, 96, .inl (upd g110_328 (((12 * l1_328) + l2_328) : Int32).toNatClampNeg l4_328))), (qf111, .inl (cf111, 96, .inl g111_328))]) [5, 0, 1, 2, 3, 4] rfl, hfk_20_102, hfk_20_103, hfk_20_110, hfk_20_111, hfk_20_112, hfk_20_113, hch_20_114, hfk_20_115, hln_20, hrq_20, hsp⟩
  intro hj_328
  refine jn_use (α := Heap × List Loc × Array Slot × List Value × Int32 × Int32 × Int32 × Int32 × (Nat → Int32) × (Nat → Int32) × Int32) (fun x9 => x9.1) (fun x9 => x9.2.1) (fun x9 => F0 m 293 x9.2.2.1 []) (fun x9 => match x9 with | (H, locs, ls, z293, l1_293, l2_293, l4_293, l7_293, g110_293, g111_293, x114_293) => lv_has ls 11 [(0, .ref h0), (1, .int l1_293), (2, .int l2_293), (4, .int l4_293), (7, .int l7_293)] ∧ va_S A s.heap H locs ∧ va_D A [(h0, .inr (13, z293)), (qf112, .inl (cf112, 6000, .inl f112)), (qf103, .inl (cf103, 8, .inl f103)), (qf102, .inl (cf102, 2048, .inl f102)), (qf110, .inl (cf110, 96, .inl g110_293)), (qf111, .inl (cf111, 96, .inl g111_293))] ∧ va_P (dC, dI) vwCl [(h0, .inr (13, z293)), (qf112, .inl (cf112, 6000, .inl f112)), (qf103, .inl (cf103, 8, .inl f103)), (qf102, .inl (cf102, 2048, .inl f102)), (qf110, .inl (cf110, 96, .inl g110_293)), (qf111, .inl (cf111, 96, .inl g111_293))] H ∧ z293[102]? = some (.ref qf102) ∧ z293[103]? = some (.ref qf103) ∧ z293[110]? = some (.ref qf110) ∧ z293[111]? = some (.ref qf111) ∧ z293[112]? = some (.ref qf112) ∧ z293[113]? = some (.int v113) ∧ z293[114]? = some (.int x114_293) ∧ z293[115]? = some (.int v115) ∧ z293.length = 155 ∧ (∀ j : Nat, j ≠ 114 → z293[j]? = zs[j]?) ∧ jn_vm_scanMethod_293 nf a1 a2 a3 v113 v114 v115 f112 f103 f102 f110 f111 l1_293 l2_293 l4_293 l7_293 g110_293 g111_293 x114_293 = some (r0, o110, o111, w114)) ?_ ?_
  · intro x9 hJ9
    obtain ⟨H, locs, ls, z293, l1_293, l2_293, l4_293, l7_293, g110_293, g111_293, x114_293⟩ := x9
    obtain ⟨hl, hS, hD, hP, hfh_293_102, hfh_293_103, hfh_293_110, hfh_293_111, hfh_293_112, hfh_293_113, hfh_293_114, hfh_293_115, hlh_293, hrh_293, hsp⟩ := hJ9
    replace hl : lv_has ls 11 [(0, .ref h0), (1, .int l1_293), (2, .int l2_293), (4, .int l4_293), (7, .int l7_293)] := hl
    replace hS : va_S A s.heap H locs := hS
    replace hD : va_D A [(h0, .inr (13, z293)), (qf112, .inl (cf112, 6000, .inl f112)), (qf103, .inl (cf103, 8, .inl f103)), (qf102, .inl (cf102, 2048, .inl f102)), (qf110, .inl (cf110, 96, .inl g110_293)), (qf111, .inl (cf111, 96, .inl g111_293))] := hD
    replace hP : va_P (dC, dI) vwCl [(h0, .inr (13, z293)), (qf112, .inl (cf112, 6000, .inl f112)), (qf103, .inl (cf103, 8, .inl f103)), (qf102, .inl (cf102, 2048, .inl f102)), (qf110, .inl (cf110, 96, .inl g110_293)), (qf111, .inl (cf111, 96, .inl g111_293))] H := hP
    replace hsp : jn_vm_scanMethod_293 nf a1 a2 a3 v113 v114 v115 f112 f103 f102 f110 f111 l1_293 l2_293 l4_293 l7_293 g110_293 g111_293 x114_293 = some (r0, o110, o111, w114) := hsp
    show W _ _ _ _ _ _ _ _ _ _ H locs _ _ _ (F0 m 293 ls [])
    unfold jn_vm_scanMethod_293 at hsp
    try dsimp only at hsp
    refine lv_iload hx hb dX13_scanMethod_293 (lv_at hl 3 rfl) ?_
    refine lv_bipush (v := 7) hx hb dX13_scanMethod_295 (by decide) ?_
    refine lv_iload hx hb dX13_scanMethod_297 (lv_at hl 4 rfl) ?_
    refine lv_iadd hx hb dX13_scanMethod_299 ?_
    refine lv_iadd hx hb dX13_scanMethod_300 ?_
    refine lv_istore (lv' := [(4, .int (l4_293 + (7 + l7_293))), (0, .ref h0), (1, .int l1_293), (2, .int l2_293), (7, .int l7_293)]) hx hb dX13_scanMethod_301 hl (by decide) rfl (fun ls hl => ?_)
    refine lv_aload_n hx hb dX13_scanMethod_303 rfl (lv_at hl 1 rfl) ?_
    refine va_get (D := (dC, dI)) (ci := 13) (v := .int x114_293) (C := RX13) (T := TX13) (N := 155) hx hb hts uV_h9_X13 hown hK hP 0 rfl rfl 114 (by decide) (hts (.fieldLink RX13 764 "ClassMillModel" "form" "I") mw_h9_251) (fun _ h9 => h9) hfh_293_114 dX13_scanMethod_304 ?_
    refine lv_iconst (v := (-1)) hx hb dX13_scanMethod_307 (by decide) ?_
    refine lv_icmp_ne (tgt := 328) hx hb dX13_scanMethod_308 (by decide) (fun c_46 => ?_) (fun c_46 => ?_)
    · rw [if_neg c_46] at hsp
      exact hj_328 (H, locs, ls, z293, l1_293, l2_293, (l4_293 + (7 + l7_293)), g110_293, g111_293, x114_293) ⟨lv_sub hl [1, 2, 3, 0] rfl, hS, hD.sub (ws' := [(h0, .inr (13, z293)), (qf112, .inl (cf112, 6000, .inl f112)), (qf103, .inl (cf103, 8, .inl f103)), (qf102, .inl (cf102, 2048, .inl f102)), (qf110, .inl (cf110, 96, .inl g110_293)), (qf111, .inl (cf111, 96, .inl g111_293))]) [0, 1, 2, 3, 4, 5] (by decide) rfl, hP.sub (ws' := [(h0, .inr (13, z293)), (qf112, .inl (cf112, 6000, .inl f112)), (qf103, .inl (cf103, 8, .inl f103)), (qf102, .inl (cf102, 2048, .inl f102)), (qf110, .inl (cf110, 96, .inl g110_293)), (qf111, .inl (cf111, 96, .inl g111_293))]) [0, 1, 2, 3, 4, 5] rfl, hfh_293_102, hfh_293_103, hfh_293_110, hfh_293_111, hfh_293_112, hfh_293_113, hfh_293_114, hfh_293_115, hlh_293, hrh_293, hsp⟩
    · rw [if_pos c_46] at hsp
      refine lv_iload hx hb dX13_scanMethod_311 (lv_at hl 0 rfl) ?_
      refine lv_aload_n hx hb dX13_scanMethod_313 rfl (lv_at hl 1 rfl) ?_
      refine va_get (D := (dC, dI)) (ci := 13) (v := .int v113) (C := RX13) (T := TX13) (N := 155) hx hb hts uV_h9_X13 hown hK hP 0 rfl rfl 113 (by decide) (hts (.fieldLink RX13 767 "ClassMillModel" "lookSize" "I") mw_h9_451) (fun _ h9 => h9) hfh_293_113 dX13_scanMethod_314 ?_
      refine lv_icmp_le (tgt := 328) hx hb dX13_scanMethod_317 (by decide) (fun c_47 => ?_) (fun c_47 => ?_)
      · rw [if_pos c_47] at hsp
        exact hj_328 (H, locs, ls, z293, l1_293, l2_293, (l4_293 + (7 + l7_293)), g110_293, g111_293, x114_293) ⟨lv_sub hl [1, 2, 3, 0] rfl, hS, hD.sub (ws' := [(h0, .inr (13, z293)), (qf112, .inl (cf112, 6000, .inl f112)), (qf103, .inl (cf103, 8, .inl f103)), (qf102, .inl (cf102, 2048, .inl f102)), (qf110, .inl (cf110, 96, .inl g110_293)), (qf111, .inl (cf111, 96, .inl g111_293))]) [0, 1, 2, 3, 4, 5] (by decide) rfl, hP.sub (ws' := [(h0, .inr (13, z293)), (qf112, .inl (cf112, 6000, .inl f112)), (qf103, .inl (cf103, 8, .inl f103)), (qf102, .inl (cf102, 2048, .inl f102)), (qf110, .inl (cf110, 96, .inl g110_293)), (qf111, .inl (cf111, 96, .inl g111_293))]) [0, 1, 2, 3, 4, 5] rfl, hfh_293_102, hfh_293_103, hfh_293_110, hfh_293_111, hfh_293_112, hfh_293_113, hfh_293_114, hfh_293_115, hlh_293, hrh_293, hsp⟩
      · rw [if_neg c_47] at hsp
        refine lv_aload_n hx hb dX13_scanMethod_320 rfl (lv_at hl 1 rfl) ?_
        refine lv_aload_n hx hb dX13_scanMethod_321 rfl (lv_at hl 1 rfl) ?_
        refine va_get (D := (dC, dI)) (ci := 13) (v := .int v113) (C := RX13) (T := TX13) (N := 155) hx hb hts uV_h9_X13 hown hK hP 0 rfl rfl 113 (by decide) (hts (.fieldLink RX13 767 "ClassMillModel" "lookSize" "I") mw_h9_451) (fun _ h9 => h9) hfh_293_113 dX13_scanMethod_322 ?_
        refine va_put (D := (dC, dI)) (ci := 13) (v := .int v113) (ty := .int) (C := RX13) (T := TX13) (N := 155) hx hb hts uV_h9_X13 tyX13 tyX13_ok nmX13 hown hK hP hD hS 0 rfl rfl 114 (by decide) (hts (.fieldLink RX13 764 "ClassMillModel" "form" "I") mw_h9_251) (fun _ h9 => h9) rfl (by decide +kernel) rfl rfl (by rw [hlh_293]; decide) dX13_scanMethod_325 ?_
        clear hP hD hS
        intro H locs hP hD hS
        obtain ⟨fs_48, efs_48⟩ : ∃ zf : List Value, zf = z293.set 114 (.int v113) := ⟨_, rfl⟩
        rw [← efs_48] at hP hD
        have hlfs_48 : fs_48.length = 155 := by rw [efs_48, List.length_set]; exact hlh_293
        have hfs_48_102 : fs_48[102]? = some (.ref qf102) := by rw [efs_48, List.getElem?_set_ne (by decide)]; exact hfh_293_102
        have hfs_48_103 : fs_48[103]? = some (.ref qf103) := by rw [efs_48, List.getElem?_set_ne (by decide)]; exact hfh_293_103
        have hfs_48_110 : fs_48[110]? = some (.ref qf110) := by rw [efs_48, List.getElem?_set_ne (by decide)]; exact hfh_293_110
        have hfs_48_111 : fs_48[111]? = some (.ref qf111) := by rw [efs_48, List.getElem?_set_ne (by decide)]; exact hfh_293_111
        have hfs_48_112 : fs_48[112]? = some (.ref qf112) := by rw [efs_48, List.getElem?_set_ne (by decide)]; exact hfh_293_112
        have hfs_48_113 : fs_48[113]? = some (.int v113) := by rw [efs_48, List.getElem?_set_ne (by decide)]; exact hfh_293_113
        have hfs_48_115 : fs_48[115]? = some (.int v115) := by rw [efs_48, List.getElem?_set_ne (by decide)]; exact hfh_293_115
        have hfs_48_114 : fs_48[114]? = some (.int v113) := by rw [efs_48, List.getElem?_set_self (by rw [hlh_293]; decide)]
        replace hP : va_P (dC, dI) vwCl [(h0, .inr (13, fs_48)), (qf112, .inl (cf112, 6000, .inl f112)), (qf103, .inl (cf103, 8, .inl f103)), (qf102, .inl (cf102, 2048, .inl f102)), (qf110, .inl (cf110, 96, .inl g110_293)), (qf111, .inl (cf111, 96, .inl g111_293))] H := hP
        replace hD : va_D A [(h0, .inr (13, fs_48)), (qf112, .inl (cf112, 6000, .inl f112)), (qf103, .inl (cf103, 8, .inl f103)), (qf102, .inl (cf102, 2048, .inl f102)), (qf110, .inl (cf110, 96, .inl g110_293)), (qf111, .inl (cf111, 96, .inl g111_293))] := hD
        have hrs_49 : ∀ j : Nat, j ≠ 114 → fs_48[j]? = zs[j]? := fun j g114 => ((congrArg (fun z : List Value => z[j]?) efs_48).trans (List.getElem?_set_ne (Ne.symm g114))).trans (hrh_293 j g114)
        exact hj_328 (H, locs, ls, fs_48, l1_293, l2_293, (l4_293 + (7 + l7_293)), g110_293, g111_293, v113) ⟨lv_sub hl [1, 2, 3, 0] rfl, hS, hD.sub (ws' := [(h0, .inr (13, fs_48)), (qf112, .inl (cf112, 6000, .inl f112)), (qf103, .inl (cf103, 8, .inl f103)), (qf102, .inl (cf102, 2048, .inl f102)), (qf110, .inl (cf110, 96, .inl g110_293)), (qf111, .inl (cf111, 96, .inl g111_293))]) [0, 1, 2, 3, 4, 5] (by decide) rfl, hP.sub (ws' := [(h0, .inr (13, fs_48)), (qf112, .inl (cf112, 6000, .inl f112)), (qf103, .inl (cf103, 8, .inl f103)), (qf102, .inl (cf102, 2048, .inl f102)), (qf110, .inl (cf110, 96, .inl g110_293)), (qf111, .inl (cf111, 96, .inl g111_293))]) [0, 1, 2, 3, 4, 5] rfl, hfs_48_102, hfs_48_103, hfs_48_110, hfs_48_111, hfs_48_112, hfs_48_113, hfs_48_114, hfs_48_115, hlfs_48, hrs_49, hsp⟩
  intro hj_293
  refine jn_use (α := Heap × List Loc × Array Slot × List Value × Int32 × Int32 × Int32 × Int32 × (Nat → Int32) × (Nat → Int32) × Int32) (fun x9 => x9.1) (fun x9 => x9.2.1) (fun x9 => F0 m 285 x9.2.2.1 []) (fun x9 => match x9 with | (H, locs, ls, z285, l1_285, l2_285, l4_285, l7_285, g110_285, g111_285, x114_285) => lv_has ls 11 [(0, .ref h0), (1, .int l1_285), (2, .int l2_285), (4, .int l4_285), (7, .int l7_285)] ∧ va_S A s.heap H locs ∧ va_D A [(h0, .inr (13, z285)), (qf112, .inl (cf112, 6000, .inl f112)), (qf103, .inl (cf103, 8, .inl f103)), (qf102, .inl (cf102, 2048, .inl f102)), (qf110, .inl (cf110, 96, .inl g110_285)), (qf111, .inl (cf111, 96, .inl g111_285))] ∧ va_P (dC, dI) vwCl [(h0, .inr (13, z285)), (qf112, .inl (cf112, 6000, .inl f112)), (qf103, .inl (cf103, 8, .inl f103)), (qf102, .inl (cf102, 2048, .inl f102)), (qf110, .inl (cf110, 96, .inl g110_285)), (qf111, .inl (cf111, 96, .inl g111_285))] H ∧ z285[102]? = some (.ref qf102) ∧ z285[103]? = some (.ref qf103) ∧ z285[110]? = some (.ref qf110) ∧ z285[111]? = some (.ref qf111) ∧ z285[112]? = some (.ref qf112) ∧ z285[113]? = some (.int v113) ∧ z285[114]? = some (.int x114_285) ∧ z285[115]? = some (.int v115) ∧ z285.length = 155 ∧ (∀ j : Nat, j ≠ 114 → z285[j]? = zs[j]?) ∧ jn_vm_scanMethod_285 nf a1 a2 a3 v113 v114 v115 f112 f103 f102 f110 f111 l1_285 l2_285 l4_285 l7_285 g110_285 g111_285 x114_285 = some (r0, o110, o111, w114)) ?_ ?_
  · intro x9 hJ9
    obtain ⟨H, locs, ls, z285, l1_285, l2_285, l4_285, l7_285, g110_285, g111_285, x114_285⟩ := x9
    obtain ⟨hl, hS, hD, hP, hfh_285_102, hfh_285_103, hfh_285_110, hfh_285_111, hfh_285_112, hfh_285_113, hfh_285_114, hfh_285_115, hlh_285, hrh_285, hsp⟩ := hJ9
    replace hl : lv_has ls 11 [(0, .ref h0), (1, .int l1_285), (2, .int l2_285), (4, .int l4_285), (7, .int l7_285)] := hl
    replace hS : va_S A s.heap H locs := hS
    replace hD : va_D A [(h0, .inr (13, z285)), (qf112, .inl (cf112, 6000, .inl f112)), (qf103, .inl (cf103, 8, .inl f103)), (qf102, .inl (cf102, 2048, .inl f102)), (qf110, .inl (cf110, 96, .inl g110_285)), (qf111, .inl (cf111, 96, .inl g111_285))] := hD
    replace hP : va_P (dC, dI) vwCl [(h0, .inr (13, z285)), (qf112, .inl (cf112, 6000, .inl f112)), (qf103, .inl (cf103, 8, .inl f103)), (qf102, .inl (cf102, 2048, .inl f102)), (qf110, .inl (cf110, 96, .inl g110_285)), (qf111, .inl (cf111, 96, .inl g111_285))] H := hP
    replace hsp : jn_vm_scanMethod_285 nf a1 a2 a3 v113 v114 v115 f112 f103 f102 f110 f111 l1_285 l2_285 l4_285 l7_285 g110_285 g111_285 x114_285 = some (r0, o110, o111, w114) := hsp
    show W _ _ _ _ _ _ _ _ _ _ H locs _ _ _ (F0 m 285 ls [])
    unfold jn_vm_scanMethod_285 at hsp
    try dsimp only at hsp
    refine lv_aload_n hx hb dX13_scanMethod_285 rfl (lv_at hl 0 rfl) ?_
    refine lv_iload hx hb dX13_scanMethod_286 (lv_at hl 3 rfl) ?_
    refine lv_iconst (v := 5) hx hb dX13_scanMethod_288 (by decide) ?_
    refine lv_iadd hx hb dX13_scanMethod_289 ?_
    obtain ⟨u18_0, hu_18, hsp⟩ := ox_bind hsp
    try dsimp only at hsp
    have hPc := hP.sub (ws' := [(h0, .inr (13, z285))]) [0] rfl
    have hDc := hD.sub (ws' := [(h0, .inr (13, z285))]) [0] (by decide) rfl
    have hKc := hK.sub (tys' := []) [] rfl
    have hFc := va_free (wc := [(h0, .inr (13, z285))]) hD hS hA [0] rfl
    refine va_callv (va_runV (As := [.int (l4_285 + 5)]) (rest := []) ⟨hx, hb, hml, hown, hts⟩ (tm_unfit l dC dI H.size h0 z285 ((l4_285 + 5)) x114_285 nf u18_0 hlh_285 hfh_285_114 hu_18) (cwV 1 hts gv_h9_48 rfl rfl rfl (by decide +kernel) ⟨Nat.le_of_ble_eq_true rfl, Nat.le_of_ble_eq_true rfl⟩) ⟨fun a U g mk q => by obtain ⟨q0, q1, qP, qK, qD⟩ := q; exact ⟨q0, q1, qP, va_K.moved (u := U) (U := U.calling g mk a) (Vm.Alike.refl U.vm) qK, qD⟩, va_recv hKc hPc (ci := 13) (q0 := 0) rfl rfl, fun U hU hW => ⟨rfl, by rw [hU], by rw [hU]; exact hPc, va_K.moved hW.alike hKc, hDc.weaken (fun _ _ _ _ => trivial)⟩⟩ rfl rfl hl.1 rfl (lv_room (Nat.le_of_ble_eq_true rfl)) dX13_scanMethod_290 ⟨Nat.le_of_ble_eq_true rfl, Nat.le_of_ble_eq_true rfl⟩) hS (fun q _ h => hFc q h) hFc ?_
    clear hS
    intro u t H1 locs ht hvm hw hB hz1 hk1 hS
    obtain ⟨z_18, rfl⟩ : ∃ z, z = u := ⟨_, rfl⟩
    obtain ⟨hP1, hK1, hD1⟩ := hB
    rw [ht] at hP1
    have hK1 := va_K.moved hvm.symm hK1
    try dsimp only at hw
    have hPD := va_join (wr := [(qf112, .inl (cf112, 6000, .inl f112)), (qf103, .inl (cf103, 8, .inl f103)), (qf102, .inl (cf102, 2048, .inl f102)), (qf110, .inl (cf110, 96, .inl g110_285)), (qf111, .inl (cf111, 96, .inl g111_285))]) (w1 := [(h0, .inr (13, z_18))]) hP hD [0] [1, 2, 3, 4, 5] rfl rfl (by decide) (by decide) hk1 hFc hP1 hD1
    clear hP hD
    obtain ⟨hP, hD⟩ := hPD
    replace hK := (hK.sub (tys' := [(cf112, .int), (cf103, .int), (cf102, .int), (cf110, .int), (cf111, .int)]) [0, 1, 2, 3, 4] rfl).app hK1
    clear hPc hDc hKc hFc hP1 hK1 hD1 hz1 hk1 ht hvm
    generalize H1 = H at hP hS ⊢
    replace hP : va_P (dC, dI) vwCl [(qf112, .inl (cf112, 6000, .inl f112)), (qf103, .inl (cf103, 8, .inl f103)), (qf102, .inl (cf102, 2048, .inl f102)), (qf110, .inl (cf110, 96, .inl g110_285)), (qf111, .inl (cf111, 96, .inl g111_285)), (h0, .inr (13, z_18))] H := hP
    replace hD : va_D A [(qf112, .inl (cf112, 6000, .inl f112)), (qf103, .inl (cf103, 8, .inl f103)), (qf102, .inl (cf102, 2048, .inl f102)), (qf110, .inl (cf110, 96, .inl g110_285)), (qf111, .inl (cf111, 96, .inl g111_285)), (h0, .inr (13, z_18))] := hD
    replace hK : va_K (dC, dI) vwCl [(cf112, .int), (cf103, .int), (cf102, .int), (cf110, .int), (cf111, .int)] s := hK
    obtain ⟨hwa_18, hln_18, hre_18, hch_18_114⟩ := hw
    have hfk_18_102 : z_18[102]? = some (.ref qf102) := (hre_18 102 (by decide)).trans (hfh_285_102)
    have hfk_18_103 : z_18[103]? = some (.ref qf103) := (hre_18 103 (by decide)).trans (hfh_285_103)
    have hfk_18_110 : z_18[110]? = some (.ref qf110) := (hre_18 110 (by decide)).trans (hfh_285_110)
    have hfk_18_111 : z_18[111]? = some (.ref qf111) := (hre_18 111 (by decide)).trans (hfh_285_111)
    have hfk_18_112 : z_18[112]? = some (.ref qf112) := (hre_18 112 (by decide)).trans (hfh_285_112)
    have hfk_18_113 : z_18[113]? = some (.int v113) := (hre_18 113 (by decide)).trans (hfh_285_113)
    have hfk_18_115 : z_18[115]? = some (.int v115) := (hre_18 115 (by decide)).trans (hfh_285_115)
    have hrq_18 : ∀ j : Nat, j ≠ 114 → z_18[j]? = zs[j]? := fun j g114 => (hre_18 j g114).trans (hrh_285 j g114)
    exact hj_293 (H, locs, ls, z_18, l1_285, l2_285, l4_285, l7_285, g110_285, g111_285, u18_0) ⟨lv_sub hl [0, 1, 2, 3, 4] rfl, hS, hD.sub (ws' := [(h0, .inr (13, z_18)), (qf112, .inl (cf112, 6000, .inl f112)), (qf103, .inl (cf103, 8, .inl f103)), (qf102, .inl (cf102, 2048, .inl f102)), (qf110, .inl (cf110, 96, .inl g110_285)), (qf111, .inl (cf111, 96, .inl g111_285))]) [5, 0, 1, 2, 3, 4] (by decide) rfl, hP.sub (ws' := [(h0, .inr (13, z_18)), (qf112, .inl (cf112, 6000, .inl f112)), (qf103, .inl (cf103, 8, .inl f103)), (qf102, .inl (cf102, 2048, .inl f102)), (qf110, .inl (cf110, 96, .inl g110_285)), (qf111, .inl (cf111, 96, .inl g111_285))]) [5, 0, 1, 2, 3, 4] rfl, hfk_18_102, hfk_18_103, hfk_18_110, hfk_18_111, hfk_18_112, hfk_18_113, hch_18_114, hfk_18_115, hln_18, hrq_18, hsp⟩
  intro hj_285
  refine jn_use (α := Heap × List Loc × Array Slot × List Value × Int32 × Int32 × Int32 × (Nat → Int32) × (Nat → Int32) × Int32) (fun x9 => x9.1) (fun x9 => x9.2.1) (fun x9 => F0 m 232 x9.2.2.1 []) (fun x9 => match x9 with | (H, locs, ls, z232, l1_232, l2_232, l4_232, g110_232, g111_232, x114_232) => lv_has ls 11 [(0, .ref h0), (1, .int l1_232), (2, .int l2_232), (4, .int l4_232)] ∧ va_S A s.heap H locs ∧ va_D A [(h0, .inr (13, z232)), (qf112, .inl (cf112, 6000, .inl f112)), (qf103, .inl (cf103, 8, .inl f103)), (qf102, .inl (cf102, 2048, .inl f102)), (qf110, .inl (cf110, 96, .inl g110_232)), (qf111, .inl (cf111, 96, .inl g111_232))] ∧ va_P (dC, dI) vwCl [(h0, .inr (13, z232)), (qf112, .inl (cf112, 6000, .inl f112)), (qf103, .inl (cf103, 8, .inl f103)), (qf102, .inl (cf102, 2048, .inl f102)), (qf110, .inl (cf110, 96, .inl g110_232)), (qf111, .inl (cf111, 96, .inl g111_232))] H ∧ z232[102]? = some (.ref qf102) ∧ z232[103]? = some (.ref qf103) ∧ z232[110]? = some (.ref qf110) ∧ z232[111]? = some (.ref qf111) ∧ z232[112]? = some (.ref qf112) ∧ z232[113]? = some (.int v113) ∧ z232[114]? = some (.int x114_232) ∧ z232[115]? = some (.int v115) ∧ z232.length = 155 ∧ (∀ j : Nat, j ≠ 114 → z232[j]? = zs[j]?) ∧ jn_vm_scanMethod_232 nf a1 a2 a3 v113 v114 v115 f112 f103 f102 f110 f111 l1_232 l2_232 l4_232 g110_232 g111_232 x114_232 = some (r0, o110, o111, w114)) ?_ ?_
  · intro x9 hJ9
    obtain ⟨H, locs, ls, z232, l1_232, l2_232, l4_232, g110_232, g111_232, x114_232⟩ := x9
    obtain ⟨hl, hS, hD, hP, hfh_232_102, hfh_232_103, hfh_232_110, hfh_232_111, hfh_232_112, hfh_232_113, hfh_232_114, hfh_232_115, hlh_232, hrh_232, hsp⟩ := hJ9
    replace hl : lv_has ls 11 [(0, .ref h0), (1, .int l1_232), (2, .int l2_232), (4, .int l4_232)] := hl
    replace hS : va_S A s.heap H locs := hS
    replace hD : va_D A [(h0, .inr (13, z232)), (qf112, .inl (cf112, 6000, .inl f112)), (qf103, .inl (cf103, 8, .inl f103)), (qf102, .inl (cf102, 2048, .inl f102)), (qf110, .inl (cf110, 96, .inl g110_232)), (qf111, .inl (cf111, 96, .inl g111_232))] := hD
    replace hP : va_P (dC, dI) vwCl [(h0, .inr (13, z232)), (qf112, .inl (cf112, 6000, .inl f112)), (qf103, .inl (cf103, 8, .inl f103)), (qf102, .inl (cf102, 2048, .inl f102)), (qf110, .inl (cf110, 96, .inl g110_232)), (qf111, .inl (cf111, 96, .inl g111_232))] H := hP
    replace hsp : jn_vm_scanMethod_232 nf a1 a2 a3 v113 v114 v115 f112 f103 f102 f110 f111 l1_232 l2_232 l4_232 g110_232 g111_232 x114_232 = some (r0, o110, o111, w114) := hsp
    show W _ _ _ _ _ _ _ _ _ _ H locs _ _ _ (F0 m 232 ls [])
    unfold jn_vm_scanMethod_232 at hsp
    try dsimp only at hsp
    refine lv_aload_n hx hb dX13_scanMethod_232 rfl (lv_at hl 0 rfl) ?_
    refine lv_iload hx hb dX13_scanMethod_233 (lv_at hl 3 rfl) ?_
    refine lv_iconst (v := 5) hx hb dX13_scanMethod_235 (by decide) ?_
    refine lv_iadd hx hb dX13_scanMethod_236 ?_
    obtain ⟨⟨u15_0, u15_1⟩, hu_15, hsp⟩ := ox_bind hsp
    try dsimp only at hsp
    have hPc := hP.sub (ws' := [(h0, .inr (13, z232))]) [0] rfl
    have hDc := hD.sub (ws' := [(h0, .inr (13, z232))]) [0] (by decide) rfl
    have hKc := hK.sub (tys' := []) [] rfl
    have hFc := va_free (wc := [(h0, .inr (13, z232))]) hD hS hA [0] rfl
    refine va_calli (va_runV (As := [.int (l4_232 + 5)]) (rest := []) ⟨hx, hb, hml, hown, hts⟩ (tm_isByte l dC dI H.size h0 z232 ((l4_232 + 5)) v113 x114_232 nf u15_0 u15_1 hlh_232 hfh_232_113 hfh_232_114 hu_15) (cwV 1 hts gv_h9_47 rfl rfl rfl (by decide +kernel) ⟨Nat.le_of_ble_eq_true rfl, Nat.le_of_ble_eq_true rfl⟩) ⟨fun a U g mk q => by obtain ⟨q0, q1, qP, qK, qD⟩ := q; exact ⟨q0, q1, qP, va_K.moved (u := U) (U := U.calling g mk a) (Vm.Alike.refl U.vm) qK, qD⟩, va_recv hKc hPc (ci := 13) (q0 := 0) rfl rfl, fun U hU hW => ⟨rfl, by rw [hU], by rw [hU]; exact hPc, va_K.moved hW.alike hKc, hDc.weaken (fun _ _ _ _ => trivial)⟩⟩ rfl rfl hl.1 rfl (lv_room (Nat.le_of_ble_eq_true rfl)) dX13_scanMethod_237 ⟨Nat.le_of_ble_eq_true rfl, Nat.le_of_ble_eq_true rfl⟩) hS (fun q _ h => hFc q h) hFc ?_
    clear hS
    intro r_37 u t H1 locs ht hvm hw hB hz1 hk1 hS
    obtain ⟨z_15, rfl⟩ : ∃ z, z = u := ⟨_, rfl⟩
    obtain ⟨hP1, hK1, hD1⟩ := hB
    rw [ht] at hP1
    have hK1 := va_K.moved hvm.symm hK1
    try dsimp only at hw
    have hPD := va_join (wr := [(qf112, .inl (cf112, 6000, .inl f112)), (qf103, .inl (cf103, 8, .inl f103)), (qf102, .inl (cf102, 2048, .inl f102)), (qf110, .inl (cf110, 96, .inl g110_232)), (qf111, .inl (cf111, 96, .inl g111_232))]) (w1 := [(h0, .inr (13, z_15))]) hP hD [0] [1, 2, 3, 4, 5] rfl rfl (by decide) (by decide) hk1 hFc hP1 hD1
    clear hP hD
    obtain ⟨hP, hD⟩ := hPD
    replace hK := (hK.sub (tys' := [(cf112, .int), (cf103, .int), (cf102, .int), (cf110, .int), (cf111, .int)]) [0, 1, 2, 3, 4] rfl).app hK1
    clear hPc hDc hKc hFc hP1 hK1 hD1 hz1 hk1 ht hvm
    generalize H1 = H at hP hS ⊢
    replace hP : va_P (dC, dI) vwCl [(qf112, .inl (cf112, 6000, .inl f112)), (qf103, .inl (cf103, 8, .inl f103)), (qf102, .inl (cf102, 2048, .inl f102)), (qf110, .inl (cf110, 96, .inl g110_232)), (qf111, .inl (cf111, 96, .inl g111_232)), (h0, .inr (13, z_15))] H := hP
    replace hD : va_D A [(qf112, .inl (cf112, 6000, .inl f112)), (qf103, .inl (cf103, 8, .inl f103)), (qf102, .inl (cf102, 2048, .inl f102)), (qf110, .inl (cf110, 96, .inl g110_232)), (qf111, .inl (cf111, 96, .inl g111_232)), (h0, .inr (13, z_15))] := hD
    replace hK : va_K (dC, dI) vwCl [(cf112, .int), (cf103, .int), (cf102, .int), (cf110, .int), (cf111, .int)] s := hK
    obtain ⟨hwa_15, hln_15, hre_15, hch_15_114⟩ := hw
    have hfk_15_102 : z_15[102]? = some (.ref qf102) := (hre_15 102 (by decide)).trans (hfh_232_102)
    have hfk_15_103 : z_15[103]? = some (.ref qf103) := (hre_15 103 (by decide)).trans (hfh_232_103)
    have hfk_15_110 : z_15[110]? = some (.ref qf110) := (hre_15 110 (by decide)).trans (hfh_232_110)
    have hfk_15_111 : z_15[111]? = some (.ref qf111) := (hre_15 111 (by decide)).trans (hfh_232_111)
    have hfk_15_112 : z_15[112]? = some (.ref qf112) := (hre_15 112 (by decide)).trans (hfh_232_112)
    have hfk_15_113 : z_15[113]? = some (.int v113) := (hre_15 113 (by decide)).trans (hfh_232_113)
    have hfk_15_115 : z_15[115]? = some (.int v115) := (hre_15 115 (by decide)).trans (hfh_232_115)
    have hrq_15 : ∀ j : Nat, j ≠ 114 → z_15[j]? = zs[j]? := fun j g114 => (hre_15 j g114).trans (hrh_232 j g114)
    obtain ⟨rfl, hz_15⟩ := hwa_15
    rcases hz_15 with rfl | rfl
    · rw [if_pos rfl] at hsp
      refine lv_if_ne (tgt := 246) hx hb dX13_scanMethod_240 (by decide) (fun c_38 => (show False by revert c_38; decide).elim) (fun c_38 => ?_)
      refine lv_iload hx hb dX13_scanMethod_243 (lv_at hl 3 rfl) ?_
      have hr0 := Option.some.inj hsp
      clear hsp
      obtain ⟨hq0, hr1⟩ := Prod.mk.inj hr0
      clear hr0
      obtain ⟨hq1, hr2⟩ := Prod.mk.inj hr1
      clear hr1
      obtain ⟨hq2, hr3⟩ := Prod.mk.inj hr2
      clear hr2
      subst hq0
      subst hq1
      subst hq2
      subst hr3
      have hP9 := hP.sub (ws' := [(h0, .inr (13, z_15)), (qf112, .inl (cf112, 6000, .inl f112)), (qf103, .inl (cf103, 8, .inl f103)), (qf102, .inl (cf102, 2048, .inl f102)), (qf110, .inl (cf110, 96, .inl g110_232)), (qf111, .inl (cf111, 96, .inl g111_232))]) [5, 0, 1, 2, 3, 4] rfl
      have hD9 := hD.sub (ws' := [(h0, .inr (13, z_15)), (qf112, .inl (cf112, 6000, .inl f112)), (qf103, .inl (cf103, 8, .inl f103)), (qf102, .inl (cf102, 2048, .inl f102)), (qf110, .inl (cf110, 96, .inl g110_232)), (qf111, .inl (cf111, 96, .inl g111_232))]) [5, 0, 1, 2, 3, 4] (by decide) rfl
      have hK9 := hK.sub (tys' := [(cf112, .int), (cf103, .int), (cf102, .int), (cf110, .int), (cf111, .int)]) [0, 1, 2, 3, 4] rfl
      exact W.iret hx hb hr (fun t ht hW => ⟨⟨(l4_232), (z_15), rfl, ⟨rfl, hln_15, hrq_15, hch_15_114⟩, by rw [ht]; exact hP9, va_K.moved hW.alike hK9, hD9⟩, hS.F ht⟩) hS.2.2 dX13_scanMethod_245
    · rw [if_neg (by decide)] at hsp
      refine lv_if_ne (tgt := 246) hx hb dX13_scanMethod_240 (by decide) (fun c_39 => ?_) (fun c_39 => (show False by revert c_39; decide).elim)
      refine lv_aload_n hx hb dX13_scanMethod_246 rfl (lv_at hl 0 rfl) ?_
      refine lv_iload hx hb dX13_scanMethod_247 (lv_at hl 3 rfl) ?_
      refine lv_bipush (v := 6) hx hb dX13_scanMethod_249 (by decide) ?_
      refine lv_iadd hx hb dX13_scanMethod_251 ?_
      obtain ⟨⟨u16_0, u16_1⟩, hu_16, hsp⟩ := ox_bind hsp
      try dsimp only at hsp
      have hPc := hP.sub (ws' := [(h0, .inr (13, z_15))]) [5] rfl
      have hDc := hD.sub (ws' := [(h0, .inr (13, z_15))]) [5] (by decide) rfl
      have hKc := hK.sub (tys' := []) [] rfl
      have hFc := va_free (wc := [(h0, .inr (13, z_15))]) hD hS hA [5] rfl
      refine va_calli (va_runV (As := [.int (l4_232 + 6)]) (rest := []) ⟨hx, hb, hml, hown, hts⟩ (tm_isByte l dC dI H.size h0 z_15 ((l4_232 + 6)) v113 u15_1 nf u16_0 u16_1 hln_15 hfk_15_113 hch_15_114 hu_16) (cwV 1 hts gv_h9_47 rfl rfl rfl (by decide +kernel) ⟨Nat.le_of_ble_eq_true rfl, Nat.le_of_ble_eq_true rfl⟩) ⟨fun a U g mk q => by obtain ⟨q0, q1, qP, qK, qD⟩ := q; exact ⟨q0, q1, qP, va_K.moved (u := U) (U := U.calling g mk a) (Vm.Alike.refl U.vm) qK, qD⟩, va_recv hKc hPc (ci := 13) (q0 := 0) rfl rfl, fun U hU hW => ⟨rfl, by rw [hU], by rw [hU]; exact hPc, va_K.moved hW.alike hKc, hDc.weaken (fun _ _ _ _ => trivial)⟩⟩ rfl rfl hl.1 rfl (lv_room (Nat.le_of_ble_eq_true rfl)) dX13_scanMethod_252 ⟨Nat.le_of_ble_eq_true rfl, Nat.le_of_ble_eq_true rfl⟩) hS (fun q _ h => hFc q h) hFc ?_
      clear hS
      intro r_40 u t H1 locs ht hvm hw hB hz1 hk1 hS
      obtain ⟨z_16, rfl⟩ : ∃ z, z = u := ⟨_, rfl⟩
      obtain ⟨hP1, hK1, hD1⟩ := hB
      rw [ht] at hP1
      have hK1 := va_K.moved hvm.symm hK1
      try dsimp only at hw
      have hPD := va_join (wr := [(qf112, .inl (cf112, 6000, .inl f112)), (qf103, .inl (cf103, 8, .inl f103)), (qf102, .inl (cf102, 2048, .inl f102)), (qf110, .inl (cf110, 96, .inl g110_232)), (qf111, .inl (cf111, 96, .inl g111_232))]) (w1 := [(h0, .inr (13, z_16))]) hP hD [5] [0, 1, 2, 3, 4] rfl rfl (by decide) (by decide) hk1 hFc hP1 hD1
      clear hP hD
      obtain ⟨hP, hD⟩ := hPD
      replace hK := (hK.sub (tys' := [(cf112, .int), (cf103, .int), (cf102, .int), (cf110, .int), (cf111, .int)]) [0, 1, 2, 3, 4] rfl).app hK1
      clear hPc hDc hKc hFc hP1 hK1 hD1 hz1 hk1 ht hvm
      generalize H1 = H at hP hS ⊢
      replace hP : va_P (dC, dI) vwCl [(qf112, .inl (cf112, 6000, .inl f112)), (qf103, .inl (cf103, 8, .inl f103)), (qf102, .inl (cf102, 2048, .inl f102)), (qf110, .inl (cf110, 96, .inl g110_232)), (qf111, .inl (cf111, 96, .inl g111_232)), (h0, .inr (13, z_16))] H := hP
      replace hD : va_D A [(qf112, .inl (cf112, 6000, .inl f112)), (qf103, .inl (cf103, 8, .inl f103)), (qf102, .inl (cf102, 2048, .inl f102)), (qf110, .inl (cf110, 96, .inl g110_232)), (qf111, .inl (cf111, 96, .inl g111_232)), (h0, .inr (13, z_16))] := hD
      replace hK : va_K (dC, dI) vwCl [(cf112, .int), (cf103, .int), (cf102, .int), (cf110, .int), (cf111, .int)] s := hK
      obtain ⟨hwa_16, hln_16, hre_16, hch_16_114⟩ := hw
      have hfk_16_102 : z_16[102]? = some (.ref qf102) := (hre_16 102 (by decide)).trans (hfk_15_102)
      have hfk_16_103 : z_16[103]? = some (.ref qf103) := (hre_16 103 (by decide)).trans (hfk_15_103)
      have hfk_16_110 : z_16[110]? = some (.ref qf110) := (hre_16 110 (by decide)).trans (hfk_15_110)
      have hfk_16_111 : z_16[111]? = some (.ref qf111) := (hre_16 111 (by decide)).trans (hfk_15_111)
      have hfk_16_112 : z_16[112]? = some (.ref qf112) := (hre_16 112 (by decide)).trans (hfk_15_112)
      have hfk_16_113 : z_16[113]? = some (.int v113) := (hre_16 113 (by decide)).trans (hfk_15_113)
      have hfk_16_115 : z_16[115]? = some (.int v115) := (hre_16 115 (by decide)).trans (hfk_15_115)
      have hrq_16 : ∀ j : Nat, j ≠ 114 → z_16[j]? = zs[j]? := fun j g114 => (hre_16 j g114).trans (hrq_15 j g114)
      obtain ⟨rfl, hz_16⟩ := hwa_16
      rcases hz_16 with rfl | rfl
      · rw [if_pos rfl] at hsp
        refine lv_if_ne (tgt := 261) hx hb dX13_scanMethod_255 (by decide) (fun c_41 => (show False by revert c_41; decide).elim) (fun c_41 => ?_)
        refine lv_iload hx hb dX13_scanMethod_258 (lv_at hl 3 rfl) ?_
        have hr0 := Option.some.inj hsp
        clear hsp
        obtain ⟨hq0, hr1⟩ := Prod.mk.inj hr0
        clear hr0
        obtain ⟨hq1, hr2⟩ := Prod.mk.inj hr1
        clear hr1
        obtain ⟨hq2, hr3⟩ := Prod.mk.inj hr2
        clear hr2
        subst hq0
        subst hq1
        subst hq2
        subst hr3
        have hP9 := hP.sub (ws' := [(h0, .inr (13, z_16)), (qf112, .inl (cf112, 6000, .inl f112)), (qf103, .inl (cf103, 8, .inl f103)), (qf102, .inl (cf102, 2048, .inl f102)), (qf110, .inl (cf110, 96, .inl g110_232)), (qf111, .inl (cf111, 96, .inl g111_232))]) [5, 0, 1, 2, 3, 4] rfl
        have hD9 := hD.sub (ws' := [(h0, .inr (13, z_16)), (qf112, .inl (cf112, 6000, .inl f112)), (qf103, .inl (cf103, 8, .inl f103)), (qf102, .inl (cf102, 2048, .inl f102)), (qf110, .inl (cf110, 96, .inl g110_232)), (qf111, .inl (cf111, 96, .inl g111_232))]) [5, 0, 1, 2, 3, 4] (by decide) rfl
        have hK9 := hK.sub (tys' := [(cf112, .int), (cf103, .int), (cf102, .int), (cf110, .int), (cf111, .int)]) [0, 1, 2, 3, 4] rfl
        exact W.iret hx hb hr (fun t ht hW => ⟨⟨(l4_232), (z_16), rfl, ⟨rfl, hln_16, hrq_16, hch_16_114⟩, by rw [ht]; exact hP9, va_K.moved hW.alike hK9, hD9⟩, hS.F ht⟩) hS.2.2 dX13_scanMethod_260
      · rw [if_neg (by decide)] at hsp
        refine lv_if_ne (tgt := 261) hx hb dX13_scanMethod_255 (by decide) (fun c_42 => ?_) (fun c_42 => (show False by revert c_42; decide).elim)
        refine lv_aload_n hx hb dX13_scanMethod_261 rfl (lv_at hl 0 rfl) ?_
        refine lv_iload hx hb dX13_scanMethod_262 (lv_at hl 3 rfl) ?_
        refine lv_iconst (v := 5) hx hb dX13_scanMethod_264 (by decide) ?_
        refine lv_iadd hx hb dX13_scanMethod_265 ?_
        obtain ⟨u17_0, hu_17, hsp⟩ := ox_bind hsp
        try dsimp only at hsp
        have hPc := hP.sub (ws' := [(h0, .inr (13, z_16)), (qf112, .inl (cf112, 6000, .inl f112))]) [5, 0] rfl
        have hDc := hD.sub (ws' := [(h0, .inr (13, z_16)), (qf112, .inl (cf112, 6000, .inl f112))]) [5, 0] (by decide) rfl
        have hKc := hK.sub (tys' := [(cf112, .int)]) [0] rfl
        have hFc := va_free (wc := [(h0, .inr (13, z_16)), (qf112, .inl (cf112, 6000, .inl f112))]) hD hS hA [5, 0] rfl
        refine va_calli (va_runV (As := [.int (l4_232 + 5)]) (rest := []) ⟨hx, hb, hml, hown, hts⟩ (tm_pairAt l dC dI H.size h0 z_16 ((l4_232 + 5)) qf112 cf112 f112 nf u17_0 hln_16 hfk_16_112 hu_17) (cwV 1 hts gv_h9_50 rfl rfl rfl (by decide +kernel) ⟨Nat.le_of_ble_eq_true rfl, Nat.le_of_ble_eq_true rfl⟩) ⟨fun a U g mk q => by obtain ⟨q0, q1, qP, qK, qD⟩ := q; exact ⟨q0, q1, qP, va_K.moved (u := U) (U := U.calling g mk a) (Vm.Alike.refl U.vm) qK, qD⟩, va_recv hKc hPc (ci := 13) (q0 := 0) rfl rfl, fun U hU hW => ⟨rfl, by rw [hU], by rw [hU]; exact hPc, va_K.moved hW.alike hKc, hDc.weaken (fun _ _ _ _ => trivial)⟩⟩ rfl rfl hl.1 rfl (lv_room (Nat.le_of_ble_eq_true rfl)) dX13_scanMethod_266 ⟨Nat.le_of_ble_eq_true rfl, Nat.le_of_ble_eq_true rfl⟩) hS (fun q _ h => hFc q h) hFc ?_
        clear hS
        intro r_43 u t H1 locs ht hvm hw hB hz1 hk1 hS
        obtain ⟨z_17, rfl⟩ : ∃ z, z = u := ⟨_, rfl⟩
        obtain ⟨hP1, hK1, hD1⟩ := hB
        rw [ht] at hP1
        have hK1 := va_K.moved hvm.symm hK1
        try dsimp only at hw
        have hPD := va_join (wr := [(qf103, .inl (cf103, 8, .inl f103)), (qf102, .inl (cf102, 2048, .inl f102)), (qf110, .inl (cf110, 96, .inl g110_232)), (qf111, .inl (cf111, 96, .inl g111_232))]) (w1 := [(h0, .inr (13, z_17)), (qf112, .inl (cf112, 6000, .inl f112))]) hP hD [5, 0] [1, 2, 3, 4] rfl rfl (by decide) (by decide) hk1 hFc hP1 hD1
        clear hP hD
        obtain ⟨hP, hD⟩ := hPD
        replace hK := (hK.sub (tys' := [(cf103, .int), (cf102, .int), (cf110, .int), (cf111, .int)]) [1, 2, 3, 4] rfl).app hK1
        clear hPc hDc hKc hFc hP1 hK1 hD1 hz1 hk1 ht hvm
        generalize H1 = H at hP hS ⊢
        replace hP : va_P (dC, dI) vwCl [(qf103, .inl (cf103, 8, .inl f103)), (qf102, .inl (cf102, 2048, .inl f102)), (qf110, .inl (cf110, 96, .inl g110_232)), (qf111, .inl (cf111, 96, .inl g111_232)), (h0, .inr (13, z_17)), (qf112, .inl (cf112, 6000, .inl f112))] H := hP
        replace hD : va_D A [(qf103, .inl (cf103, 8, .inl f103)), (qf102, .inl (cf102, 2048, .inl f102)), (qf110, .inl (cf110, 96, .inl g110_232)), (qf111, .inl (cf111, 96, .inl g111_232)), (h0, .inr (13, z_17)), (qf112, .inl (cf112, 6000, .inl f112))] := hD
        replace hK : va_K (dC, dI) vwCl [(cf103, .int), (cf102, .int), (cf110, .int), (cf111, .int), (cf112, .int)] s := hK
        obtain ⟨hwa_17, hln_17, hre_17⟩ := hw
        have hfk_17_102 : z_17[102]? = some (.ref qf102) := (hre_17 102 ).trans (hfk_16_102)
        have hfk_17_103 : z_17[103]? = some (.ref qf103) := (hre_17 103 ).trans (hfk_16_103)
        have hfk_17_110 : z_17[110]? = some (.ref qf110) := (hre_17 110 ).trans (hfk_16_110)
        have hfk_17_111 : z_17[111]? = some (.ref qf111) := (hre_17 111 ).trans (hfk_16_111)
        have hfk_17_112 : z_17[112]? = some (.ref qf112) := (hre_17 112 ).trans (hfk_16_112)
        have hfk_17_113 : z_17[113]? = some (.int v113) := (hre_17 113 ).trans (hfk_16_113)
        have hfk_17_114 : z_17[114]? = some (.int u16_1) := (hre_17 114 ).trans (hch_16_114)
        have hfk_17_115 : z_17[115]? = some (.int v115) := (hre_17 115 ).trans (hfk_16_115)
        have hrq_17 : ∀ j : Nat, j ≠ 114 → z_17[j]? = zs[j]? := fun j g114 => (hre_17 j ).trans (hrq_16 j g114)
        obtain rfl := hwa_17
        refine lv_istore (lv' := [(7, .int u17_0), (0, .ref h0), (1, .int l1_232), (2, .int l2_232), (4, .int l4_232)]) hx hb dX13_scanMethod_269 hl (by decide) rfl (fun ls hl => ?_)
        refine lv_iload hx hb dX13_scanMethod_271 (lv_at hl 0 rfl) ?_
        refine lv_iconst (v := 1) hx hb dX13_scanMethod_273 (by decide) ?_
        refine lv_icmp_lt (tgt := 285) hx hb dX13_scanMethod_274 (by decide) (fun c_44 => ?_) (fun c_44 => ?_)
        · rw [if_pos c_44] at hsp
          exact hj_285 (H, locs, ls, z_17, l1_232, l2_232, l4_232, u17_0, g110_232, g111_232, u16_1) ⟨lv_sub hl [1, 2, 3, 4, 0] rfl, hS, hD.sub (ws' := [(h0, .inr (13, z_17)), (qf112, .inl (cf112, 6000, .inl f112)), (qf103, .inl (cf103, 8, .inl f103)), (qf102, .inl (cf102, 2048, .inl f102)), (qf110, .inl (cf110, 96, .inl g110_232)), (qf111, .inl (cf111, 96, .inl g111_232))]) [4, 5, 0, 1, 2, 3] (by decide) rfl, hP.sub (ws' := [(h0, .inr (13, z_17)), (qf112, .inl (cf112, 6000, .inl f112)), (qf103, .inl (cf103, 8, .inl f103)), (qf102, .inl (cf102, 2048, .inl f102)), (qf110, .inl (cf110, 96, .inl g110_232)), (qf111, .inl (cf111, 96, .inl g111_232))]) [4, 5, 0, 1, 2, 3] rfl, hfk_17_102, hfk_17_103, hfk_17_110, hfk_17_111, hfk_17_112, hfk_17_113, hfk_17_114, hfk_17_115, hln_17, hrq_17, hsp⟩
        · rw [if_neg c_44] at hsp
          refine lv_iload hx hb dX13_scanMethod_277 (lv_at hl 0 rfl) ?_
          refine lv_sipush (v := 1500) hx hb dX13_scanMethod_279 (by decide) ?_
          refine lv_icmp_le (tgt := 293) hx hb dX13_scanMethod_282 (by decide) (fun c_45 => ?_) (fun c_45 => ?_)
          · rw [if_pos c_45] at hsp
            exact hj_293 (H, locs, ls, z_17, l1_232, l2_232, l4_232, u17_0, g110_232, g111_232, u16_1) ⟨lv_sub hl [1, 2, 3, 4, 0] rfl, hS, hD.sub (ws' := [(h0, .inr (13, z_17)), (qf112, .inl (cf112, 6000, .inl f112)), (qf103, .inl (cf103, 8, .inl f103)), (qf102, .inl (cf102, 2048, .inl f102)), (qf110, .inl (cf110, 96, .inl g110_232)), (qf111, .inl (cf111, 96, .inl g111_232))]) [4, 5, 0, 1, 2, 3] (by decide) rfl, hP.sub (ws' := [(h0, .inr (13, z_17)), (qf112, .inl (cf112, 6000, .inl f112)), (qf103, .inl (cf103, 8, .inl f103)), (qf102, .inl (cf102, 2048, .inl f102)), (qf110, .inl (cf110, 96, .inl g110_232)), (qf111, .inl (cf111, 96, .inl g111_232))]) [4, 5, 0, 1, 2, 3] rfl, hfk_17_102, hfk_17_103, hfk_17_110, hfk_17_111, hfk_17_112, hfk_17_113, hfk_17_114, hfk_17_115, hln_17, hrq_17, hsp⟩
          · rw [if_neg c_45] at hsp
            exact hj_285 (H, locs, ls, z_17, l1_232, l2_232, l4_232, u17_0, g110_232, g111_232, u16_1) ⟨lv_sub hl [1, 2, 3, 4, 0] rfl, hS, hD.sub (ws' := [(h0, .inr (13, z_17)), (qf112, .inl (cf112, 6000, .inl f112)), (qf103, .inl (cf103, 8, .inl f103)), (qf102, .inl (cf102, 2048, .inl f102)), (qf110, .inl (cf110, 96, .inl g110_232)), (qf111, .inl (cf111, 96, .inl g111_232))]) [4, 5, 0, 1, 2, 3] (by decide) rfl, hP.sub (ws' := [(h0, .inr (13, z_17)), (qf112, .inl (cf112, 6000, .inl f112)), (qf103, .inl (cf103, 8, .inl f103)), (qf102, .inl (cf102, 2048, .inl f102)), (qf110, .inl (cf110, 96, .inl g110_232)), (qf111, .inl (cf111, 96, .inl g111_232))]) [4, 5, 0, 1, 2, 3] rfl, hfk_17_102, hfk_17_103, hfk_17_110, hfk_17_111, hfk_17_112, hfk_17_113, hfk_17_114, hfk_17_115, hln_17, hrq_17, hsp⟩
  intro hj_232
  refine jn_use (α := Heap × List Loc × Array Slot × List Value × Int32 × Int32 × Int32 × (Nat → Int32) × (Nat → Int32) × Int32) (fun x9 => x9.1) (fun x9 => x9.2.1) (fun x9 => F0 m 224 x9.2.2.1 []) (fun x9 => match x9 with | (H, locs, ls, z224, l1_224, l2_224, l4_224, g110_224, g111_224, x114_224) => lv_has ls 11 [(0, .ref h0), (1, .int l1_224), (2, .int l2_224), (4, .int l4_224)] ∧ va_S A s.heap H locs ∧ va_D A [(h0, .inr (13, z224)), (qf112, .inl (cf112, 6000, .inl f112)), (qf103, .inl (cf103, 8, .inl f103)), (qf102, .inl (cf102, 2048, .inl f102)), (qf110, .inl (cf110, 96, .inl g110_224)), (qf111, .inl (cf111, 96, .inl g111_224))] ∧ va_P (dC, dI) vwCl [(h0, .inr (13, z224)), (qf112, .inl (cf112, 6000, .inl f112)), (qf103, .inl (cf103, 8, .inl f103)), (qf102, .inl (cf102, 2048, .inl f102)), (qf110, .inl (cf110, 96, .inl g110_224)), (qf111, .inl (cf111, 96, .inl g111_224))] H ∧ z224[102]? = some (.ref qf102) ∧ z224[103]? = some (.ref qf103) ∧ z224[110]? = some (.ref qf110) ∧ z224[111]? = some (.ref qf111) ∧ z224[112]? = some (.ref qf112) ∧ z224[113]? = some (.int v113) ∧ z224[114]? = some (.int x114_224) ∧ z224[115]? = some (.int v115) ∧ z224.length = 155 ∧ (∀ j : Nat, j ≠ 114 → z224[j]? = zs[j]?) ∧ jn_vm_scanMethod_224 nf a1 a2 a3 v113 v114 v115 f112 f103 f102 f110 f111 l1_224 l2_224 l4_224 g110_224 g111_224 x114_224 = some (r0, o110, o111, w114)) ?_ ?_
  · intro x9 hJ9
    obtain ⟨H, locs, ls, z224, l1_224, l2_224, l4_224, g110_224, g111_224, x114_224⟩ := x9
    obtain ⟨hl, hS, hD, hP, hfh_224_102, hfh_224_103, hfh_224_110, hfh_224_111, hfh_224_112, hfh_224_113, hfh_224_114, hfh_224_115, hlh_224, hrh_224, hsp⟩ := hJ9
    replace hl : lv_has ls 11 [(0, .ref h0), (1, .int l1_224), (2, .int l2_224), (4, .int l4_224)] := hl
    replace hS : va_S A s.heap H locs := hS
    replace hD : va_D A [(h0, .inr (13, z224)), (qf112, .inl (cf112, 6000, .inl f112)), (qf103, .inl (cf103, 8, .inl f103)), (qf102, .inl (cf102, 2048, .inl f102)), (qf110, .inl (cf110, 96, .inl g110_224)), (qf111, .inl (cf111, 96, .inl g111_224))] := hD
    replace hP : va_P (dC, dI) vwCl [(h0, .inr (13, z224)), (qf112, .inl (cf112, 6000, .inl f112)), (qf103, .inl (cf103, 8, .inl f103)), (qf102, .inl (cf102, 2048, .inl f102)), (qf110, .inl (cf110, 96, .inl g110_224)), (qf111, .inl (cf111, 96, .inl g111_224))] H := hP
    replace hsp : jn_vm_scanMethod_224 nf a1 a2 a3 v113 v114 v115 f112 f103 f102 f110 f111 l1_224 l2_224 l4_224 g110_224 g111_224 x114_224 = some (r0, o110, o111, w114) := hsp
    show W _ _ _ _ _ _ _ _ _ _ H locs _ _ _ (F0 m 224 ls [])
    unfold jn_vm_scanMethod_224 at hsp
    try dsimp only at hsp
    refine lv_aload_n hx hb dX13_scanMethod_224 rfl (lv_at hl 0 rfl) ?_
    refine lv_iload hx hb dX13_scanMethod_225 (lv_at hl 3 rfl) ?_
    refine lv_iconst (v := 4) hx hb dX13_scanMethod_227 (by decide) ?_
    refine lv_iadd hx hb dX13_scanMethod_228 ?_
    obtain ⟨u14_0, hu_14, hsp⟩ := ox_bind hsp
    try dsimp only at hsp
    have hPc := hP.sub (ws' := [(h0, .inr (13, z224))]) [0] rfl
    have hDc := hD.sub (ws' := [(h0, .inr (13, z224))]) [0] (by decide) rfl
    have hKc := hK.sub (tys' := []) [] rfl
    have hFc := va_free (wc := [(h0, .inr (13, z224))]) hD hS hA [0] rfl
    refine va_callv (va_runV (As := [.int (l4_224 + 4)]) (rest := []) ⟨hx, hb, hml, hown, hts⟩ (tm_unfit l dC dI H.size h0 z224 ((l4_224 + 4)) x114_224 nf u14_0 hlh_224 hfh_224_114 hu_14) (cwV 1 hts gv_h9_48 rfl rfl rfl (by decide +kernel) ⟨Nat.le_of_ble_eq_true rfl, Nat.le_of_ble_eq_true rfl⟩) ⟨fun a U g mk q => by obtain ⟨q0, q1, qP, qK, qD⟩ := q; exact ⟨q0, q1, qP, va_K.moved (u := U) (U := U.calling g mk a) (Vm.Alike.refl U.vm) qK, qD⟩, va_recv hKc hPc (ci := 13) (q0 := 0) rfl rfl, fun U hU hW => ⟨rfl, by rw [hU], by rw [hU]; exact hPc, va_K.moved hW.alike hKc, hDc.weaken (fun _ _ _ _ => trivial)⟩⟩ rfl rfl hl.1 rfl (lv_room (Nat.le_of_ble_eq_true rfl)) dX13_scanMethod_229 ⟨Nat.le_of_ble_eq_true rfl, Nat.le_of_ble_eq_true rfl⟩) hS (fun q _ h => hFc q h) hFc ?_
    clear hS
    intro u t H1 locs ht hvm hw hB hz1 hk1 hS
    obtain ⟨z_14, rfl⟩ : ∃ z, z = u := ⟨_, rfl⟩
    obtain ⟨hP1, hK1, hD1⟩ := hB
    rw [ht] at hP1
    have hK1 := va_K.moved hvm.symm hK1
    try dsimp only at hw
    have hPD := va_join (wr := [(qf112, .inl (cf112, 6000, .inl f112)), (qf103, .inl (cf103, 8, .inl f103)), (qf102, .inl (cf102, 2048, .inl f102)), (qf110, .inl (cf110, 96, .inl g110_224)), (qf111, .inl (cf111, 96, .inl g111_224))]) (w1 := [(h0, .inr (13, z_14))]) hP hD [0] [1, 2, 3, 4, 5] rfl rfl (by decide) (by decide) hk1 hFc hP1 hD1
    clear hP hD
    obtain ⟨hP, hD⟩ := hPD
    replace hK := (hK.sub (tys' := [(cf112, .int), (cf103, .int), (cf102, .int), (cf110, .int), (cf111, .int)]) [0, 1, 2, 3, 4] rfl).app hK1
    clear hPc hDc hKc hFc hP1 hK1 hD1 hz1 hk1 ht hvm
    generalize H1 = H at hP hS ⊢
    replace hP : va_P (dC, dI) vwCl [(qf112, .inl (cf112, 6000, .inl f112)), (qf103, .inl (cf103, 8, .inl f103)), (qf102, .inl (cf102, 2048, .inl f102)), (qf110, .inl (cf110, 96, .inl g110_224)), (qf111, .inl (cf111, 96, .inl g111_224)), (h0, .inr (13, z_14))] H := hP
    replace hD : va_D A [(qf112, .inl (cf112, 6000, .inl f112)), (qf103, .inl (cf103, 8, .inl f103)), (qf102, .inl (cf102, 2048, .inl f102)), (qf110, .inl (cf110, 96, .inl g110_224)), (qf111, .inl (cf111, 96, .inl g111_224)), (h0, .inr (13, z_14))] := hD
    replace hK : va_K (dC, dI) vwCl [(cf112, .int), (cf103, .int), (cf102, .int), (cf110, .int), (cf111, .int)] s := hK
    obtain ⟨hwa_14, hln_14, hre_14, hch_14_114⟩ := hw
    have hfk_14_102 : z_14[102]? = some (.ref qf102) := (hre_14 102 (by decide)).trans (hfh_224_102)
    have hfk_14_103 : z_14[103]? = some (.ref qf103) := (hre_14 103 (by decide)).trans (hfh_224_103)
    have hfk_14_110 : z_14[110]? = some (.ref qf110) := (hre_14 110 (by decide)).trans (hfh_224_110)
    have hfk_14_111 : z_14[111]? = some (.ref qf111) := (hre_14 111 (by decide)).trans (hfh_224_111)
    have hfk_14_112 : z_14[112]? = some (.ref qf112) := (hre_14 112 (by decide)).trans (hfh_224_112)
    have hfk_14_113 : z_14[113]? = some (.int v113) := (hre_14 113 (by decide)).trans (hfh_224_113)
    have hfk_14_115 : z_14[115]? = some (.int v115) := (hre_14 115 (by decide)).trans (hfh_224_115)
    have hrq_14 : ∀ j : Nat, j ≠ 114 → z_14[j]? = zs[j]? := fun j g114 => (hre_14 j g114).trans (hrh_224 j g114)
    exact hj_232 (H, locs, ls, z_14, l1_224, l2_224, l4_224, g110_224, g111_224, u14_0) ⟨lv_sub hl [0, 1, 2, 3] rfl, hS, hD.sub (ws' := [(h0, .inr (13, z_14)), (qf112, .inl (cf112, 6000, .inl f112)), (qf103, .inl (cf103, 8, .inl f103)), (qf102, .inl (cf102, 2048, .inl f102)), (qf110, .inl (cf110, 96, .inl g110_224)), (qf111, .inl (cf111, 96, .inl g111_224))]) [5, 0, 1, 2, 3, 4] (by decide) rfl, hP.sub (ws' := [(h0, .inr (13, z_14)), (qf112, .inl (cf112, 6000, .inl f112)), (qf103, .inl (cf103, 8, .inl f103)), (qf102, .inl (cf102, 2048, .inl f102)), (qf110, .inl (cf110, 96, .inl g110_224)), (qf111, .inl (cf111, 96, .inl g111_224))]) [5, 0, 1, 2, 3, 4] rfl, hfk_14_102, hfk_14_103, hfk_14_110, hfk_14_111, hfk_14_112, hfk_14_113, hch_14_114, hfk_14_115, hln_14, hrq_14, hsp⟩
  intro hj_224
  refine jn_use (α := Heap × List Loc × Array Slot × List Value × Int32 × Int32 × Int32 × (Nat → Int32) × (Nat → Int32) × Int32) (fun x9 => x9.1) (fun x9 => x9.2.1) (fun x9 => F0 m 134 x9.2.2.1 []) (fun x9 => match x9 with | (H, locs, ls, z134, l1_134, l2_134, l4_134, g110_134, g111_134, x114_134) => lv_has ls 11 [(0, .ref h0), (1, .int l1_134), (2, .int l2_134), (4, .int l4_134)] ∧ va_S A s.heap H locs ∧ va_D A [(h0, .inr (13, z134)), (qf112, .inl (cf112, 6000, .inl f112)), (qf103, .inl (cf103, 8, .inl f103)), (qf102, .inl (cf102, 2048, .inl f102)), (qf110, .inl (cf110, 96, .inl g110_134)), (qf111, .inl (cf111, 96, .inl g111_134))] ∧ va_P (dC, dI) vwCl [(h0, .inr (13, z134)), (qf112, .inl (cf112, 6000, .inl f112)), (qf103, .inl (cf103, 8, .inl f103)), (qf102, .inl (cf102, 2048, .inl f102)), (qf110, .inl (cf110, 96, .inl g110_134)), (qf111, .inl (cf111, 96, .inl g111_134))] H ∧ z134[102]? = some (.ref qf102) ∧ z134[103]? = some (.ref qf103) ∧ z134[110]? = some (.ref qf110) ∧ z134[111]? = some (.ref qf111) ∧ z134[112]? = some (.ref qf112) ∧ z134[113]? = some (.int v113) ∧ z134[114]? = some (.int x114_134) ∧ z134[115]? = some (.int v115) ∧ z134.length = 155 ∧ (∀ j : Nat, j ≠ 114 → z134[j]? = zs[j]?) ∧ jn_vm_scanMethod_134 nf a1 a2 a3 v113 v114 v115 f112 f103 f102 f110 f111 l1_134 l2_134 l4_134 g110_134 g111_134 x114_134 = some (r0, o110, o111, w114)) ?_ ?_
  · intro x9 hJ9
    obtain ⟨H, locs, ls, z134, l1_134, l2_134, l4_134, g110_134, g111_134, x114_134⟩ := x9
    obtain ⟨hl, hS, hD, hP, hfh_134_102, hfh_134_103, hfh_134_110, hfh_134_111, hfh_134_112, hfh_134_113, hfh_134_114, hfh_134_115, hlh_134, hrh_134, hsp⟩ := hJ9
    replace hl : lv_has ls 11 [(0, .ref h0), (1, .int l1_134), (2, .int l2_134), (4, .int l4_134)] := hl
    replace hS : va_S A s.heap H locs := hS
    replace hD : va_D A [(h0, .inr (13, z134)), (qf112, .inl (cf112, 6000, .inl f112)), (qf103, .inl (cf103, 8, .inl f103)), (qf102, .inl (cf102, 2048, .inl f102)), (qf110, .inl (cf110, 96, .inl g110_134)), (qf111, .inl (cf111, 96, .inl g111_134))] := hD
    replace hP : va_P (dC, dI) vwCl [(h0, .inr (13, z134)), (qf112, .inl (cf112, 6000, .inl f112)), (qf103, .inl (cf103, 8, .inl f103)), (qf102, .inl (cf102, 2048, .inl f102)), (qf110, .inl (cf110, 96, .inl g110_134)), (qf111, .inl (cf111, 96, .inl g111_134))] H := hP
    replace hsp : jn_vm_scanMethod_134 nf a1 a2 a3 v113 v114 v115 f112 f103 f102 f110 f111 l1_134 l2_134 l4_134 g110_134 g111_134 x114_134 = some (r0, o110, o111, w114) := hsp
    show W _ _ _ _ _ _ _ _ _ _ H locs _ _ _ (F0 m 134 ls [])
    unfold jn_vm_scanMethod_134 at hsp
    try dsimp only at hsp
    refine lv_aload_n hx hb dX13_scanMethod_134 rfl (lv_at hl 0 rfl) ?_
    refine lv_iload hx hb dX13_scanMethod_135 (lv_at hl 3 rfl) ?_
    refine lv_iconst (v := 4) hx hb dX13_scanMethod_137 (by decide) ?_
    refine lv_iadd hx hb dX13_scanMethod_138 ?_
    obtain ⟨⟨u11_0, u11_1⟩, hu_11, hsp⟩ := ox_bind hsp
    try dsimp only at hsp
    have hPc := hP.sub (ws' := [(h0, .inr (13, z134))]) [0] rfl
    have hDc := hD.sub (ws' := [(h0, .inr (13, z134))]) [0] (by decide) rfl
    have hKc := hK.sub (tys' := []) [] rfl
    have hFc := va_free (wc := [(h0, .inr (13, z134))]) hD hS hA [0] rfl
    refine va_calli (va_runV (As := [.int (l4_134 + 4)]) (rest := []) ⟨hx, hb, hml, hown, hts⟩ (tm_isByte l dC dI H.size h0 z134 ((l4_134 + 4)) v113 x114_134 nf u11_0 u11_1 hlh_134 hfh_134_113 hfh_134_114 hu_11) (cwV 1 hts gv_h9_47 rfl rfl rfl (by decide +kernel) ⟨Nat.le_of_ble_eq_true rfl, Nat.le_of_ble_eq_true rfl⟩) ⟨fun a U g mk q => by obtain ⟨q0, q1, qP, qK, qD⟩ := q; exact ⟨q0, q1, qP, va_K.moved (u := U) (U := U.calling g mk a) (Vm.Alike.refl U.vm) qK, qD⟩, va_recv hKc hPc (ci := 13) (q0 := 0) rfl rfl, fun U hU hW => ⟨rfl, by rw [hU], by rw [hU]; exact hPc, va_K.moved hW.alike hKc, hDc.weaken (fun _ _ _ _ => trivial)⟩⟩ rfl rfl hl.1 rfl (lv_room (Nat.le_of_ble_eq_true rfl)) dX13_scanMethod_139 ⟨Nat.le_of_ble_eq_true rfl, Nat.le_of_ble_eq_true rfl⟩) hS (fun q _ h => hFc q h) hFc ?_
    clear hS
    intro r_25 u t H1 locs ht hvm hw hB hz1 hk1 hS
    obtain ⟨z_11, rfl⟩ : ∃ z, z = u := ⟨_, rfl⟩
    obtain ⟨hP1, hK1, hD1⟩ := hB
    rw [ht] at hP1
    have hK1 := va_K.moved hvm.symm hK1
    try dsimp only at hw
    have hPD := va_join (wr := [(qf112, .inl (cf112, 6000, .inl f112)), (qf103, .inl (cf103, 8, .inl f103)), (qf102, .inl (cf102, 2048, .inl f102)), (qf110, .inl (cf110, 96, .inl g110_134)), (qf111, .inl (cf111, 96, .inl g111_134))]) (w1 := [(h0, .inr (13, z_11))]) hP hD [0] [1, 2, 3, 4, 5] rfl rfl (by decide) (by decide) hk1 hFc hP1 hD1
    clear hP hD
    obtain ⟨hP, hD⟩ := hPD
    replace hK := (hK.sub (tys' := [(cf112, .int), (cf103, .int), (cf102, .int), (cf110, .int), (cf111, .int)]) [0, 1, 2, 3, 4] rfl).app hK1
    clear hPc hDc hKc hFc hP1 hK1 hD1 hz1 hk1 ht hvm
    generalize H1 = H at hP hS ⊢
    replace hP : va_P (dC, dI) vwCl [(qf112, .inl (cf112, 6000, .inl f112)), (qf103, .inl (cf103, 8, .inl f103)), (qf102, .inl (cf102, 2048, .inl f102)), (qf110, .inl (cf110, 96, .inl g110_134)), (qf111, .inl (cf111, 96, .inl g111_134)), (h0, .inr (13, z_11))] H := hP
    replace hD : va_D A [(qf112, .inl (cf112, 6000, .inl f112)), (qf103, .inl (cf103, 8, .inl f103)), (qf102, .inl (cf102, 2048, .inl f102)), (qf110, .inl (cf110, 96, .inl g110_134)), (qf111, .inl (cf111, 96, .inl g111_134)), (h0, .inr (13, z_11))] := hD
    replace hK : va_K (dC, dI) vwCl [(cf112, .int), (cf103, .int), (cf102, .int), (cf110, .int), (cf111, .int)] s := hK
    obtain ⟨hwa_11, hln_11, hre_11, hch_11_114⟩ := hw
    have hfk_11_102 : z_11[102]? = some (.ref qf102) := (hre_11 102 (by decide)).trans (hfh_134_102)
    have hfk_11_103 : z_11[103]? = some (.ref qf103) := (hre_11 103 (by decide)).trans (hfh_134_103)
    have hfk_11_110 : z_11[110]? = some (.ref qf110) := (hre_11 110 (by decide)).trans (hfh_134_110)
    have hfk_11_111 : z_11[111]? = some (.ref qf111) := (hre_11 111 (by decide)).trans (hfh_134_111)
    have hfk_11_112 : z_11[112]? = some (.ref qf112) := (hre_11 112 (by decide)).trans (hfh_134_112)
    have hfk_11_113 : z_11[113]? = some (.int v113) := (hre_11 113 (by decide)).trans (hfh_134_113)
    have hfk_11_115 : z_11[115]? = some (.int v115) := (hre_11 115 (by decide)).trans (hfh_134_115)
    have hrq_11 : ∀ j : Nat, j ≠ 114 → z_11[j]? = zs[j]? := fun j g114 => (hre_11 j g114).trans (hrh_134 j g114)
    obtain ⟨rfl, hz_11⟩ := hwa_11
    rcases hz_11 with rfl | rfl
    · rw [if_pos rfl] at hsp
      refine lv_if_ne (tgt := 148) hx hb dX13_scanMethod_142 (by decide) (fun c_26 => (show False by revert c_26; decide).elim) (fun c_26 => ?_)
      refine lv_iload hx hb dX13_scanMethod_145 (lv_at hl 3 rfl) ?_
      have hr0 := Option.some.inj hsp
      clear hsp
      obtain ⟨hq0, hr1⟩ := Prod.mk.inj hr0
      clear hr0
      obtain ⟨hq1, hr2⟩ := Prod.mk.inj hr1
      clear hr1
      obtain ⟨hq2, hr3⟩ := Prod.mk.inj hr2
      clear hr2
      subst hq0
      subst hq1
      subst hq2
      subst hr3
      have hP9 := hP.sub (ws' := [(h0, .inr (13, z_11)), (qf112, .inl (cf112, 6000, .inl f112)), (qf103, .inl (cf103, 8, .inl f103)), (qf102, .inl (cf102, 2048, .inl f102)), (qf110, .inl (cf110, 96, .inl g110_134)), (qf111, .inl (cf111, 96, .inl g111_134))]) [5, 0, 1, 2, 3, 4] rfl
      have hD9 := hD.sub (ws' := [(h0, .inr (13, z_11)), (qf112, .inl (cf112, 6000, .inl f112)), (qf103, .inl (cf103, 8, .inl f103)), (qf102, .inl (cf102, 2048, .inl f102)), (qf110, .inl (cf110, 96, .inl g110_134)), (qf111, .inl (cf111, 96, .inl g111_134))]) [5, 0, 1, 2, 3, 4] (by decide) rfl
      have hK9 := hK.sub (tys' := [(cf112, .int), (cf103, .int), (cf102, .int), (cf110, .int), (cf111, .int)]) [0, 1, 2, 3, 4] rfl
      exact W.iret hx hb hr (fun t ht hW => ⟨⟨(l4_134), (z_11), rfl, ⟨rfl, hln_11, hrq_11, hch_11_114⟩, by rw [ht]; exact hP9, va_K.moved hW.alike hK9, hD9⟩, hS.F ht⟩) hS.2.2 dX13_scanMethod_147
    · rw [if_neg (by decide)] at hsp
      refine lv_if_ne (tgt := 148) hx hb dX13_scanMethod_142 (by decide) (fun c_27 => ?_) (fun c_27 => (show False by revert c_27; decide).elim)
      refine lv_aload_n hx hb dX13_scanMethod_148 rfl (lv_at hl 0 rfl) ?_
      refine lv_iload_n hx hb dX13_scanMethod_149 rfl (lv_at hl 1 rfl) ?_
      refine lv_aload_n hx hb dX13_scanMethod_150 rfl (lv_at hl 0 rfl) ?_
      refine va_get (D := (dC, dI)) (ci := 13) (v := .ref qf112) (C := RX13) (T := TX13) (N := 155) hx hb hts uV_h9_X13 hown hK hP 5 rfl rfl 112 (by decide) (hts (.fieldLink RX13 245 "ClassMillModel" "look" "[I") mw_h9_242) (fun _ h9 => h9) hfk_11_112 dX13_scanMethod_151 ?_
      refine lv_iload hx hb dX13_scanMethod_154 (lv_at hl 3 rfl) ?_
      refine lv_iconst (v := 2) hx hb dX13_scanMethod_156 (by decide) ?_
      refine lv_iadd hx hb dX13_scanMethod_157 ?_
      obtain ⟨hi_28, hsp⟩ := ox_in hsp
      refine va_iald hx hb hK hP 0 0 rfl rfl (i := (l4_134 + 2)) hi_28 dX13_scanMethod_158 ?_
      obtain ⟨u12_0, hu_12, hsp⟩ := ox_bind hsp
      try dsimp only at hsp
      have hPc := hP.sub (ws' := [(h0, .inr (13, z_11)), (qf103, .inl (cf103, 8, .inl f103)), (qf102, .inl (cf102, 2048, .inl f102))]) [5, 1, 2] rfl
      have hDc := hD.sub (ws' := [(h0, .inr (13, z_11)), (qf103, .inl (cf103, 8, .inl f103)), (qf102, .inl (cf102, 2048, .inl f102))]) [5, 1, 2] (by decide) rfl
      have hKc := hK.sub (tys' := [(cf103, .int), (cf102, .int)]) [1, 2] rfl
      have hFc := va_free (wc := [(h0, .inr (13, z_11)), (qf103, .inl (cf103, 8, .inl f103)), (qf102, .inl (cf102, 2048, .inl f102))]) hD hS hA [5, 1, 2] rfl
      refine va_calli (va_runV (As := [.int l1_134, .int (f112 ((l4_134 + 2) : Int32).toNatClampNeg)]) (rest := []) ⟨hx, hb, hml, hown, hts⟩ (tm_constantOf l dC dI H.size h0 z_11 l1_134 ((f112 ((l4_134 + 2) : Int32).toNatClampNeg)) qf102 qf103 cf103 f103 cf102 f102 nf u12_0 hln_11 hfk_11_102 hfk_11_103 hu_12) (cwV 2 hts gv_h9_44 rfl rfl rfl (by decide +kernel) ⟨Nat.le_of_ble_eq_true rfl, Nat.le_of_ble_eq_true rfl⟩) ⟨fun a U g mk q => by obtain ⟨q0, q1, qP, qK, qD⟩ := q; exact ⟨q0, q1, qP, va_K.moved (u := U) (U := U.calling g mk a) (Vm.Alike.refl U.vm) qK, qD⟩, va_recv hKc hPc (ci := 13) (q0 := 0) rfl rfl, fun U hU hW => ⟨rfl, by rw [hU], by rw [hU]; exact hPc, va_K.moved hW.alike hKc, hDc.weaken (fun _ _ _ _ => trivial)⟩⟩ rfl rfl hl.1 rfl (lv_room (Nat.le_of_ble_eq_true rfl)) dX13_scanMethod_159 ⟨Nat.le_of_ble_eq_true rfl, Nat.le_of_ble_eq_true rfl⟩) hS (fun q _ h => hFc q h) hFc ?_
      clear hS
      intro r_29 u t H1 locs ht hvm hw hB hz1 hk1 hS
      obtain ⟨z_12, rfl⟩ : ∃ z, z = u := ⟨_, rfl⟩
      obtain ⟨hP1, hK1, hD1⟩ := hB
      rw [ht] at hP1
      have hK1 := va_K.moved hvm.symm hK1
      try dsimp only at hw
      have hPD := va_join (wr := [(qf112, .inl (cf112, 6000, .inl f112)), (qf110, .inl (cf110, 96, .inl g110_134)), (qf111, .inl (cf111, 96, .inl g111_134))]) (w1 := [(h0, .inr (13, z_12)), (qf103, .inl (cf103, 8, .inl f103)), (qf102, .inl (cf102, 2048, .inl f102))]) hP hD [5, 1, 2] [0, 3, 4] rfl rfl (by decide) (by decide) hk1 hFc hP1 hD1
      clear hP hD
      obtain ⟨hP, hD⟩ := hPD
      replace hK := (hK.sub (tys' := [(cf112, .int), (cf110, .int), (cf111, .int)]) [0, 3, 4] rfl).app hK1
      clear hPc hDc hKc hFc hP1 hK1 hD1 hz1 hk1 ht hvm
      generalize H1 = H at hP hS ⊢
      replace hP : va_P (dC, dI) vwCl [(qf112, .inl (cf112, 6000, .inl f112)), (qf110, .inl (cf110, 96, .inl g110_134)), (qf111, .inl (cf111, 96, .inl g111_134)), (h0, .inr (13, z_12)), (qf103, .inl (cf103, 8, .inl f103)), (qf102, .inl (cf102, 2048, .inl f102))] H := hP
      replace hD : va_D A [(qf112, .inl (cf112, 6000, .inl f112)), (qf110, .inl (cf110, 96, .inl g110_134)), (qf111, .inl (cf111, 96, .inl g111_134)), (h0, .inr (13, z_12)), (qf103, .inl (cf103, 8, .inl f103)), (qf102, .inl (cf102, 2048, .inl f102))] := hD
      replace hK : va_K (dC, dI) vwCl [(cf112, .int), (cf110, .int), (cf111, .int), (cf103, .int), (cf102, .int)] s := hK
      obtain ⟨hwa_12, hln_12, hre_12⟩ := hw
      have hfk_12_102 : z_12[102]? = some (.ref qf102) := (hre_12 102 ).trans (hfk_11_102)
      have hfk_12_103 : z_12[103]? = some (.ref qf103) := (hre_12 103 ).trans (hfk_11_103)
      have hfk_12_110 : z_12[110]? = some (.ref qf110) := (hre_12 110 ).trans (hfk_11_110)
      have hfk_12_111 : z_12[111]? = some (.ref qf111) := (hre_12 111 ).trans (hfk_11_111)
      have hfk_12_112 : z_12[112]? = some (.ref qf112) := (hre_12 112 ).trans (hfk_11_112)
      have hfk_12_113 : z_12[113]? = some (.int v113) := (hre_12 113 ).trans (hfk_11_113)
      have hfk_12_114 : z_12[114]? = some (.int u11_1) := (hre_12 114 ).trans (hch_11_114)
      have hfk_12_115 : z_12[115]? = some (.int v115) := (hre_12 115 ).trans (hfk_11_115)
      have hrq_12 : ∀ j : Nat, j ≠ 114 → z_12[j]? = zs[j]? := fun j g114 => (hre_12 j ).trans (hrq_11 j g114)
      obtain rfl := hwa_12
      refine lv_istore (lv' := [(5, .int u12_0), (0, .ref h0), (1, .int l1_134), (2, .int l2_134), (4, .int l4_134)]) hx hb dX13_scanMethod_162 hl (by decide) rfl (fun ls hl => ?_)
      refine lv_aload_n hx hb dX13_scanMethod_164 rfl (lv_at hl 1 rfl) ?_
      refine va_get (D := (dC, dI)) (ci := 13) (v := .ref qf112) (C := RX13) (T := TX13) (N := 155) hx hb hts uV_h9_X13 hown hK hP 3 rfl rfl 112 (by decide) (hts (.fieldLink RX13 245 "ClassMillModel" "look" "[I") mw_h9_242) (fun _ h9 => h9) hfk_12_112 dX13_scanMethod_165 ?_
      refine lv_iload hx hb dX13_scanMethod_168 (lv_at hl 0 rfl) ?_
      refine lv_iconst (v := 2) hx hb dX13_scanMethod_170 (by decide) ?_
      refine lv_iadd hx hb dX13_scanMethod_171 ?_
      refine lv_aload_n hx hb dX13_scanMethod_172 rfl (lv_at hl 1 rfl) ?_
      refine va_get (D := (dC, dI)) (ci := 13) (v := .ref qf112) (C := RX13) (T := TX13) (N := 155) hx hb hts uV_h9_X13 hown hK hP 3 rfl rfl 112 (by decide) (hts (.fieldLink RX13 245 "ClassMillModel" "look" "[I") mw_h9_242) (fun _ h9 => h9) hfk_12_112 dX13_scanMethod_173 ?_
      refine lv_iload hx hb dX13_scanMethod_176 (lv_at hl 0 rfl) ?_
      refine lv_iconst (v := 1) hx hb dX13_scanMethod_178 (by decide) ?_
      refine lv_iadd hx hb dX13_scanMethod_179 ?_
      obtain ⟨hi_30, hsp⟩ := ox_in hsp
      refine va_iald hx hb hK hP 0 0 rfl rfl (i := (u12_0 + 1)) hi_30 dX13_scanMethod_180 ?_
      obtain ⟨u13_0, hu_13, hsp⟩ := ox_bind hsp
      try dsimp only at hsp
      have hPc := hP.sub (ws' := [(qf112, .inl (cf112, 6000, .inl f112))]) [0] rfl
      have hDc := hD.sub (ws' := [(qf112, .inl (cf112, 6000, .inl f112))]) [0] (by decide) rfl
      have hKc := hK.sub (tys' := [(cf112, .int)]) [0] rfl
      have hFc := va_free (wc := [(qf112, .inl (cf112, 6000, .inl f112))]) hD hS hA [0] rfl
      refine va_calli (va_runS (As := [.ref qf112, .int (u12_0 + 2), .int (f112 ((u12_0 + 1) : Int32).toNatClampNeg)]) (rest := []) ⟨hx, hb, hml, hown, hts⟩ (vm_parametersIn l dC dI H.size qf112 ((u12_0 + 2)) ((f112 ((u12_0 + 1) : Int32).toNatClampNeg)) cf112 6000 f112 nf u13_0 hu_13) (va_cwS 3 hts gv_h9_43 rfl rfl rfl (by decide +kernel) ⟨Nat.le_of_ble_eq_true rfl, Nat.le_of_ble_eq_true rfl⟩) ⟨fun a U g mk q => by obtain ⟨q0, q1, qP, qK, qD⟩ := q; exact ⟨q0, q1, qP, va_K.moved (u := U) (U := U.calling g mk a) (Vm.Alike.refl U.vm) qK, qD⟩, fun U hU hW => ⟨rfl, by rw [hU], by rw [hU]; exact hPc, va_K.moved hW.alike hKc, hDc.weaken (fun _ _ _ _ => trivial)⟩⟩ rfl rfl hl.1 rfl (lv_room (Nat.le_of_ble_eq_true rfl)) dX13_scanMethod_181 ⟨Nat.le_of_ble_eq_true rfl, Nat.le_of_ble_eq_true rfl⟩) hS (fun q _ h => hFc q h) hFc ?_
      clear hS
      intro r_31 u t H1 locs ht hvm hw hB hz1 hk1 hS
      obtain ⟨⟩ := u
      obtain ⟨hP1, hK1, hD1⟩ := hB
      rw [ht] at hP1
      have hK1 := va_K.moved hvm.symm hK1
      try dsimp only at hw
      have hPD := va_join (wr := [(qf110, .inl (cf110, 96, .inl g110_134)), (qf111, .inl (cf111, 96, .inl g111_134)), (h0, .inr (13, z_12)), (qf103, .inl (cf103, 8, .inl f103)), (qf102, .inl (cf102, 2048, .inl f102))]) (w1 := [(qf112, .inl (cf112, 6000, .inl f112))]) hP hD [0] [1, 2, 3, 4, 5] rfl rfl (by decide) (by decide) hk1 hFc hP1 hD1
      clear hP hD
      obtain ⟨hP, hD⟩ := hPD
      replace hK := (hK.sub (tys' := [(cf110, .int), (cf111, .int), (cf103, .int), (cf102, .int)]) [1, 2, 3, 4] rfl).app hK1
      clear hPc hDc hKc hFc hP1 hK1 hD1 hz1 hk1 ht hvm
      generalize H1 = H at hP hS ⊢
      replace hP : va_P (dC, dI) vwCl [(qf110, .inl (cf110, 96, .inl g110_134)), (qf111, .inl (cf111, 96, .inl g111_134)), (h0, .inr (13, z_12)), (qf103, .inl (cf103, 8, .inl f103)), (qf102, .inl (cf102, 2048, .inl f102)), (qf112, .inl (cf112, 6000, .inl f112))] H := hP
      replace hD : va_D A [(qf110, .inl (cf110, 96, .inl g110_134)), (qf111, .inl (cf111, 96, .inl g111_134)), (h0, .inr (13, z_12)), (qf103, .inl (cf103, 8, .inl f103)), (qf102, .inl (cf102, 2048, .inl f102)), (qf112, .inl (cf112, 6000, .inl f112))] := hD
      replace hK : va_K (dC, dI) vwCl [(cf110, .int), (cf111, .int), (cf103, .int), (cf102, .int), (cf112, .int)] s := hK
      obtain rfl := hw
      refine lv_iconst (v := 1) hx hb dX13_scanMethod_184 (by decide) ?_
      refine lv_iadd hx hb dX13_scanMethod_185 ?_
      refine lv_aload_n hx hb dX13_scanMethod_186 rfl (lv_at hl 1 rfl) ?_
      refine va_get (D := (dC, dI)) (ci := 13) (v := .ref qf112) (C := RX13) (T := TX13) (N := 155) hx hb hts uV_h9_X13 hown hK hP 2 rfl rfl 112 (by decide) (hts (.fieldLink RX13 245 "ClassMillModel" "look" "[I") mw_h9_242) (fun _ h9 => h9) hfk_12_112 dX13_scanMethod_187 ?_
      refine lv_iload hx hb dX13_scanMethod_190 (lv_at hl 4 rfl) ?_
      obtain ⟨hi_32, hsp⟩ := ox_in hsp
      refine va_iald hx hb hK hP 5 4 rfl rfl (i := l4_134) hi_32 dX13_scanMethod_192 ?_
      refine lv_isub hx hb dX13_scanMethod_193 ?_
      refine lv_istore (lv' := [(6, .int ((u13_0 + 1) - (f112 (l4_134 : Int32).toNatClampNeg))), (5, .int u12_0), (0, .ref h0), (1, .int l1_134), (2, .int l2_134), (4, .int l4_134)]) hx hb dX13_scanMethod_194 hl (by decide) rfl (fun ls hl => ?_)
      refine lv_aload_n hx hb dX13_scanMethod_196 rfl (lv_at hl 2 rfl) ?_
      refine va_get (D := (dC, dI)) (ci := 13) (v := .ref qf112) (C := RX13) (T := TX13) (N := 155) hx hb hts uV_h9_X13 hown hK hP 2 rfl rfl 112 (by decide) (hts (.fieldLink RX13 245 "ClassMillModel" "look" "[I") mw_h9_242) (fun _ h9 => h9) hfk_12_112 dX13_scanMethod_197 ?_
      refine lv_iload hx hb dX13_scanMethod_200 (lv_at hl 5 rfl) ?_
      refine lv_iconst (v := 4) hx hb dX13_scanMethod_202 (by decide) ?_
      refine lv_iadd hx hb dX13_scanMethod_203 ?_
      obtain ⟨hi_33, hsp⟩ := ox_in hsp
      refine va_iald hx hb hK hP 5 4 rfl rfl (i := (l4_134 + 4)) hi_33 dX13_scanMethod_204 ?_
      refine lv_bipush (v := 30) hx hb dX13_scanMethod_205 (by decide) ?_
      refine lv_icmp_gt (tgt := 224) hx hb dX13_scanMethod_207 (by decide) (fun c_34 => ?_) (fun c_34 => ?_)
      · rw [if_pos c_34] at hsp
        exact hj_224 (H, locs, ls, z_12, l1_134, l2_134, l4_134, g110_134, g111_134, u11_1) ⟨lv_sub hl [2, 3, 4, 5] rfl, hS, hD.sub (ws' := [(h0, .inr (13, z_12)), (qf112, .inl (cf112, 6000, .inl f112)), (qf103, .inl (cf103, 8, .inl f103)), (qf102, .inl (cf102, 2048, .inl f102)), (qf110, .inl (cf110, 96, .inl g110_134)), (qf111, .inl (cf111, 96, .inl g111_134))]) [2, 5, 3, 4, 0, 1] (by decide) rfl, hP.sub (ws' := [(h0, .inr (13, z_12)), (qf112, .inl (cf112, 6000, .inl f112)), (qf103, .inl (cf103, 8, .inl f103)), (qf102, .inl (cf102, 2048, .inl f102)), (qf110, .inl (cf110, 96, .inl g110_134)), (qf111, .inl (cf111, 96, .inl g111_134))]) [2, 5, 3, 4, 0, 1] rfl, hfk_12_102, hfk_12_103, hfk_12_110, hfk_12_111, hfk_12_112, hfk_12_113, hfk_12_114, hfk_12_115, hln_12, hrq_12, hsp⟩
      · rw [if_neg c_34] at hsp
        refine lv_aload_n hx hb dX13_scanMethod_210 rfl (lv_at hl 2 rfl) ?_
        refine va_get (D := (dC, dI)) (ci := 13) (v := .ref qf112) (C := RX13) (T := TX13) (N := 155) hx hb hts uV_h9_X13 hown hK hP 2 rfl rfl 112 (by decide) (hts (.fieldLink RX13 245 "ClassMillModel" "look" "[I") mw_h9_242) (fun _ h9 => h9) hfk_12_112 dX13_scanMethod_211 ?_
        refine lv_iload hx hb dX13_scanMethod_214 (lv_at hl 5 rfl) ?_
        refine lv_iconst (v := 4) hx hb dX13_scanMethod_216 (by decide) ?_
        refine lv_iadd hx hb dX13_scanMethod_217 ?_
        obtain ⟨hi_35, hsp⟩ := ox_in hsp
        refine va_iald hx hb hK hP 5 4 rfl rfl (i := (l4_134 + 4)) hi_35 dX13_scanMethod_218 ?_
        refine lv_iload hx hb dX13_scanMethod_219 (lv_at hl 0 rfl) ?_
        refine lv_icmp_ge (tgt := 232) hx hb dX13_scanMethod_221 (by decide) (fun c_36 => ?_) (fun c_36 => ?_)
        · rw [if_pos c_36] at hsp
          exact hj_232 (H, locs, ls, z_12, l1_134, l2_134, l4_134, g110_134, g111_134, u11_1) ⟨lv_sub hl [2, 3, 4, 5] rfl, hS, hD.sub (ws' := [(h0, .inr (13, z_12)), (qf112, .inl (cf112, 6000, .inl f112)), (qf103, .inl (cf103, 8, .inl f103)), (qf102, .inl (cf102, 2048, .inl f102)), (qf110, .inl (cf110, 96, .inl g110_134)), (qf111, .inl (cf111, 96, .inl g111_134))]) [2, 5, 3, 4, 0, 1] (by decide) rfl, hP.sub (ws' := [(h0, .inr (13, z_12)), (qf112, .inl (cf112, 6000, .inl f112)), (qf103, .inl (cf103, 8, .inl f103)), (qf102, .inl (cf102, 2048, .inl f102)), (qf110, .inl (cf110, 96, .inl g110_134)), (qf111, .inl (cf111, 96, .inl g111_134))]) [2, 5, 3, 4, 0, 1] rfl, hfk_12_102, hfk_12_103, hfk_12_110, hfk_12_111, hfk_12_112, hfk_12_113, hfk_12_114, hfk_12_115, hln_12, hrq_12, hsp⟩
        · rw [if_neg c_36] at hsp
          exact hj_224 (H, locs, ls, z_12, l1_134, l2_134, l4_134, g110_134, g111_134, u11_1) ⟨lv_sub hl [2, 3, 4, 5] rfl, hS, hD.sub (ws' := [(h0, .inr (13, z_12)), (qf112, .inl (cf112, 6000, .inl f112)), (qf103, .inl (cf103, 8, .inl f103)), (qf102, .inl (cf102, 2048, .inl f102)), (qf110, .inl (cf110, 96, .inl g110_134)), (qf111, .inl (cf111, 96, .inl g111_134))]) [2, 5, 3, 4, 0, 1] (by decide) rfl, hP.sub (ws' := [(h0, .inr (13, z_12)), (qf112, .inl (cf112, 6000, .inl f112)), (qf103, .inl (cf103, 8, .inl f103)), (qf102, .inl (cf102, 2048, .inl f102)), (qf110, .inl (cf110, 96, .inl g110_134)), (qf111, .inl (cf111, 96, .inl g111_134))]) [2, 5, 3, 4, 0, 1] rfl, hfk_12_102, hfk_12_103, hfk_12_110, hfk_12_111, hfk_12_112, hfk_12_113, hfk_12_114, hfk_12_115, hln_12, hrq_12, hsp⟩
  intro hj_134
  refine jn_use (α := Heap × List Loc × Array Slot × List Value × Int32 × Int32 × Int32 × (Nat → Int32) × (Nat → Int32) × Int32) (fun x9 => x9.1) (fun x9 => x9.2.1) (fun x9 => F0 m 101 x9.2.2.1 []) (fun x9 => match x9 with | (H, locs, ls, z101, l1_101, l2_101, l4_101, g110_101, g111_101, x114_101) => lv_has ls 11 [(0, .ref h0), (1, .int l1_101), (2, .int l2_101), (4, .int l4_101)] ∧ va_S A s.heap H locs ∧ va_D A [(h0, .inr (13, z101)), (qf112, .inl (cf112, 6000, .inl f112)), (qf103, .inl (cf103, 8, .inl f103)), (qf102, .inl (cf102, 2048, .inl f102)), (qf110, .inl (cf110, 96, .inl g110_101)), (qf111, .inl (cf111, 96, .inl g111_101))] ∧ va_P (dC, dI) vwCl [(h0, .inr (13, z101)), (qf112, .inl (cf112, 6000, .inl f112)), (qf103, .inl (cf103, 8, .inl f103)), (qf102, .inl (cf102, 2048, .inl f102)), (qf110, .inl (cf110, 96, .inl g110_101)), (qf111, .inl (cf111, 96, .inl g111_101))] H ∧ z101[102]? = some (.ref qf102) ∧ z101[103]? = some (.ref qf103) ∧ z101[110]? = some (.ref qf110) ∧ z101[111]? = some (.ref qf111) ∧ z101[112]? = some (.ref qf112) ∧ z101[113]? = some (.int v113) ∧ z101[114]? = some (.int x114_101) ∧ z101[115]? = some (.int v115) ∧ z101.length = 155 ∧ (∀ j : Nat, j ≠ 114 → z101[j]? = zs[j]?) ∧ jn_vm_scanMethod_101 nf a1 a2 a3 v113 v114 v115 f112 f103 f102 f110 f111 l1_101 l2_101 l4_101 g110_101 g111_101 x114_101 = some (r0, o110, o111, w114)) ?_ ?_
  · intro x9 hJ9
    obtain ⟨H, locs, ls, z101, l1_101, l2_101, l4_101, g110_101, g111_101, x114_101⟩ := x9
    obtain ⟨hl, hS, hD, hP, hfh_101_102, hfh_101_103, hfh_101_110, hfh_101_111, hfh_101_112, hfh_101_113, hfh_101_114, hfh_101_115, hlh_101, hrh_101, hsp⟩ := hJ9
    replace hl : lv_has ls 11 [(0, .ref h0), (1, .int l1_101), (2, .int l2_101), (4, .int l4_101)] := hl
    replace hS : va_S A s.heap H locs := hS
    replace hD : va_D A [(h0, .inr (13, z101)), (qf112, .inl (cf112, 6000, .inl f112)), (qf103, .inl (cf103, 8, .inl f103)), (qf102, .inl (cf102, 2048, .inl f102)), (qf110, .inl (cf110, 96, .inl g110_101)), (qf111, .inl (cf111, 96, .inl g111_101))] := hD
    replace hP : va_P (dC, dI) vwCl [(h0, .inr (13, z101)), (qf112, .inl (cf112, 6000, .inl f112)), (qf103, .inl (cf103, 8, .inl f103)), (qf102, .inl (cf102, 2048, .inl f102)), (qf110, .inl (cf110, 96, .inl g110_101)), (qf111, .inl (cf111, 96, .inl g111_101))] H := hP
    replace hsp : jn_vm_scanMethod_101 nf a1 a2 a3 v113 v114 v115 f112 f103 f102 f110 f111 l1_101 l2_101 l4_101 g110_101 g111_101 x114_101 = some (r0, o110, o111, w114) := hsp
    show W _ _ _ _ _ _ _ _ _ _ H locs _ _ _ (F0 m 101 ls [])
    unfold jn_vm_scanMethod_101 at hsp
    try dsimp only at hsp
    refine lv_aload_n hx hb dX13_scanMethod_101 rfl (lv_at hl 0 rfl) ?_
    refine lv_iload hx hb dX13_scanMethod_102 (lv_at hl 3 rfl) ?_
    refine lv_iconst (v := 3) hx hb dX13_scanMethod_104 (by decide) ?_
    refine lv_iadd hx hb dX13_scanMethod_105 ?_
    obtain ⟨⟨u9_0, u9_1⟩, hu_9, hsp⟩ := ox_bind hsp
    try dsimp only at hsp
    have hPc := hP.sub (ws' := [(h0, .inr (13, z101))]) [0] rfl
    have hDc := hD.sub (ws' := [(h0, .inr (13, z101))]) [0] (by decide) rfl
    have hKc := hK.sub (tys' := []) [] rfl
    have hFc := va_free (wc := [(h0, .inr (13, z101))]) hD hS hA [0] rfl
    refine va_calli (va_runV (As := [.int (l4_101 + 3)]) (rest := []) ⟨hx, hb, hml, hown, hts⟩ (tm_isByte l dC dI H.size h0 z101 ((l4_101 + 3)) v113 x114_101 nf u9_0 u9_1 hlh_101 hfh_101_113 hfh_101_114 hu_9) (cwV 1 hts gv_h9_47 rfl rfl rfl (by decide +kernel) ⟨Nat.le_of_ble_eq_true rfl, Nat.le_of_ble_eq_true rfl⟩) ⟨fun a U g mk q => by obtain ⟨q0, q1, qP, qK, qD⟩ := q; exact ⟨q0, q1, qP, va_K.moved (u := U) (U := U.calling g mk a) (Vm.Alike.refl U.vm) qK, qD⟩, va_recv hKc hPc (ci := 13) (q0 := 0) rfl rfl, fun U hU hW => ⟨rfl, by rw [hU], by rw [hU]; exact hPc, va_K.moved hW.alike hKc, hDc.weaken (fun _ _ _ _ => trivial)⟩⟩ rfl rfl hl.1 rfl (lv_room (Nat.le_of_ble_eq_true rfl)) dX13_scanMethod_106 ⟨Nat.le_of_ble_eq_true rfl, Nat.le_of_ble_eq_true rfl⟩) hS (fun q _ h => hFc q h) hFc ?_
    clear hS
    intro r_20 u t H1 locs ht hvm hw hB hz1 hk1 hS
    obtain ⟨z_9, rfl⟩ : ∃ z, z = u := ⟨_, rfl⟩
    obtain ⟨hP1, hK1, hD1⟩ := hB
    rw [ht] at hP1
    have hK1 := va_K.moved hvm.symm hK1
    try dsimp only at hw
    have hPD := va_join (wr := [(qf112, .inl (cf112, 6000, .inl f112)), (qf103, .inl (cf103, 8, .inl f103)), (qf102, .inl (cf102, 2048, .inl f102)), (qf110, .inl (cf110, 96, .inl g110_101)), (qf111, .inl (cf111, 96, .inl g111_101))]) (w1 := [(h0, .inr (13, z_9))]) hP hD [0] [1, 2, 3, 4, 5] rfl rfl (by decide) (by decide) hk1 hFc hP1 hD1
    clear hP hD
    obtain ⟨hP, hD⟩ := hPD
    replace hK := (hK.sub (tys' := [(cf112, .int), (cf103, .int), (cf102, .int), (cf110, .int), (cf111, .int)]) [0, 1, 2, 3, 4] rfl).app hK1
    clear hPc hDc hKc hFc hP1 hK1 hD1 hz1 hk1 ht hvm
    generalize H1 = H at hP hS ⊢
    replace hP : va_P (dC, dI) vwCl [(qf112, .inl (cf112, 6000, .inl f112)), (qf103, .inl (cf103, 8, .inl f103)), (qf102, .inl (cf102, 2048, .inl f102)), (qf110, .inl (cf110, 96, .inl g110_101)), (qf111, .inl (cf111, 96, .inl g111_101)), (h0, .inr (13, z_9))] H := hP
    replace hD : va_D A [(qf112, .inl (cf112, 6000, .inl f112)), (qf103, .inl (cf103, 8, .inl f103)), (qf102, .inl (cf102, 2048, .inl f102)), (qf110, .inl (cf110, 96, .inl g110_101)), (qf111, .inl (cf111, 96, .inl g111_101)), (h0, .inr (13, z_9))] := hD
    replace hK : va_K (dC, dI) vwCl [(cf112, .int), (cf103, .int), (cf102, .int), (cf110, .int), (cf111, .int)] s := hK
    obtain ⟨hwa_9, hln_9, hre_9, hch_9_114⟩ := hw
    have hfk_9_102 : z_9[102]? = some (.ref qf102) := (hre_9 102 (by decide)).trans (hfh_101_102)
    have hfk_9_103 : z_9[103]? = some (.ref qf103) := (hre_9 103 (by decide)).trans (hfh_101_103)
    have hfk_9_110 : z_9[110]? = some (.ref qf110) := (hre_9 110 (by decide)).trans (hfh_101_110)
    have hfk_9_111 : z_9[111]? = some (.ref qf111) := (hre_9 111 (by decide)).trans (hfh_101_111)
    have hfk_9_112 : z_9[112]? = some (.ref qf112) := (hre_9 112 (by decide)).trans (hfh_101_112)
    have hfk_9_113 : z_9[113]? = some (.int v113) := (hre_9 113 (by decide)).trans (hfh_101_113)
    have hfk_9_115 : z_9[115]? = some (.int v115) := (hre_9 115 (by decide)).trans (hfh_101_115)
    have hrq_9 : ∀ j : Nat, j ≠ 114 → z_9[j]? = zs[j]? := fun j g114 => (hre_9 j g114).trans (hrh_101 j g114)
    obtain ⟨rfl, hz_9⟩ := hwa_9
    rcases hz_9 with rfl | rfl
    · rw [if_pos rfl] at hsp
      refine lv_if_eq (tgt := 134) hx hb dX13_scanMethod_109 (by decide) (fun c_21 => ?_) (fun c_21 => (show False by revert c_21; decide).elim)
      exact hj_134 (H, locs, ls, z_9, l1_101, l2_101, l4_101, g110_101, g111_101, u9_1) ⟨lv_sub hl [0, 1, 2, 3] rfl, hS, hD.sub (ws' := [(h0, .inr (13, z_9)), (qf112, .inl (cf112, 6000, .inl f112)), (qf103, .inl (cf103, 8, .inl f103)), (qf102, .inl (cf102, 2048, .inl f102)), (qf110, .inl (cf110, 96, .inl g110_101)), (qf111, .inl (cf111, 96, .inl g111_101))]) [5, 0, 1, 2, 3, 4] (by decide) rfl, hP.sub (ws' := [(h0, .inr (13, z_9)), (qf112, .inl (cf112, 6000, .inl f112)), (qf103, .inl (cf103, 8, .inl f103)), (qf102, .inl (cf102, 2048, .inl f102)), (qf110, .inl (cf110, 96, .inl g110_101)), (qf111, .inl (cf111, 96, .inl g111_101))]) [5, 0, 1, 2, 3, 4] rfl, hfk_9_102, hfk_9_103, hfk_9_110, hfk_9_111, hfk_9_112, hfk_9_113, hch_9_114, hfk_9_115, hln_9, hrq_9, hsp⟩
    · rw [if_neg (by decide)] at hsp
      refine lv_if_eq (tgt := 134) hx hb dX13_scanMethod_109 (by decide) (fun c_22 => (show False by revert c_22; decide).elim) (fun c_22 => ?_)
      refine lv_aload_n hx hb dX13_scanMethod_112 rfl (lv_at hl 0 rfl) ?_
      refine va_get (D := (dC, dI)) (ci := 13) (v := .ref qf112) (C := RX13) (T := TX13) (N := 155) hx hb hts uV_h9_X13 hown hK hP 5 rfl rfl 112 (by decide) (hts (.fieldLink RX13 245 "ClassMillModel" "look" "[I") mw_h9_242) (fun _ h9 => h9) hfk_9_112 dX13_scanMethod_113 ?_
      refine lv_iload hx hb dX13_scanMethod_116 (lv_at hl 3 rfl) ?_
      refine lv_iconst (v := 3) hx hb dX13_scanMethod_118 (by decide) ?_
      refine lv_iadd hx hb dX13_scanMethod_119 ?_
      obtain ⟨hi_23, hsp⟩ := ox_in hsp
      refine va_iald hx hb hK hP 0 0 rfl rfl (i := (l4_101 + 3)) hi_23 dX13_scanMethod_120 ?_
      refine lv_bipush (v := 30) hx hb dX13_scanMethod_121 (by decide) ?_
      refine lv_icmp_le (tgt := 134) hx hb dX13_scanMethod_123 (by decide) (fun c_24 => ?_) (fun c_24 => ?_)
      · rw [if_pos c_24] at hsp
        exact hj_134 (H, locs, ls, z_9, l1_101, l2_101, l4_101, g110_101, g111_101, u9_1) ⟨lv_sub hl [0, 1, 2, 3] rfl, hS, hD.sub (ws' := [(h0, .inr (13, z_9)), (qf112, .inl (cf112, 6000, .inl f112)), (qf103, .inl (cf103, 8, .inl f103)), (qf102, .inl (cf102, 2048, .inl f102)), (qf110, .inl (cf110, 96, .inl g110_101)), (qf111, .inl (cf111, 96, .inl g111_101))]) [5, 0, 1, 2, 3, 4] (by decide) rfl, hP.sub (ws' := [(h0, .inr (13, z_9)), (qf112, .inl (cf112, 6000, .inl f112)), (qf103, .inl (cf103, 8, .inl f103)), (qf102, .inl (cf102, 2048, .inl f102)), (qf110, .inl (cf110, 96, .inl g110_101)), (qf111, .inl (cf111, 96, .inl g111_101))]) [5, 0, 1, 2, 3, 4] rfl, hfk_9_102, hfk_9_103, hfk_9_110, hfk_9_111, hfk_9_112, hfk_9_113, hch_9_114, hfk_9_115, hln_9, hrq_9, hsp⟩
      · rw [if_neg c_24] at hsp
        refine lv_aload_n hx hb dX13_scanMethod_126 rfl (lv_at hl 0 rfl) ?_
        refine lv_iload hx hb dX13_scanMethod_127 (lv_at hl 3 rfl) ?_
        refine lv_iconst (v := 3) hx hb dX13_scanMethod_129 (by decide) ?_
        refine lv_iadd hx hb dX13_scanMethod_130 ?_
        obtain ⟨u10_0, hu_10, hsp⟩ := ox_bind hsp
        try dsimp only at hsp
        have hPc := hP.sub (ws' := [(h0, .inr (13, z_9))]) [5] rfl
        have hDc := hD.sub (ws' := [(h0, .inr (13, z_9))]) [5] (by decide) rfl
        have hKc := hK.sub (tys' := []) [] rfl
        have hFc := va_free (wc := [(h0, .inr (13, z_9))]) hD hS hA [5] rfl
        refine va_callv (va_runV (As := [.int (l4_101 + 3)]) (rest := []) ⟨hx, hb, hml, hown, hts⟩ (tm_unfit l dC dI H.size h0 z_9 ((l4_101 + 3)) u9_1 nf u10_0 hln_9 hch_9_114 hu_10) (cwV 1 hts gv_h9_48 rfl rfl rfl (by decide +kernel) ⟨Nat.le_of_ble_eq_true rfl, Nat.le_of_ble_eq_true rfl⟩) ⟨fun a U g mk q => by obtain ⟨q0, q1, qP, qK, qD⟩ := q; exact ⟨q0, q1, qP, va_K.moved (u := U) (U := U.calling g mk a) (Vm.Alike.refl U.vm) qK, qD⟩, va_recv hKc hPc (ci := 13) (q0 := 0) rfl rfl, fun U hU hW => ⟨rfl, by rw [hU], by rw [hU]; exact hPc, va_K.moved hW.alike hKc, hDc.weaken (fun _ _ _ _ => trivial)⟩⟩ rfl rfl hl.1 rfl (lv_room (Nat.le_of_ble_eq_true rfl)) dX13_scanMethod_131 ⟨Nat.le_of_ble_eq_true rfl, Nat.le_of_ble_eq_true rfl⟩) hS (fun q _ h => hFc q h) hFc ?_
        clear hS
        intro u t H1 locs ht hvm hw hB hz1 hk1 hS
        obtain ⟨z_10, rfl⟩ : ∃ z, z = u := ⟨_, rfl⟩
        obtain ⟨hP1, hK1, hD1⟩ := hB
        rw [ht] at hP1
        have hK1 := va_K.moved hvm.symm hK1
        try dsimp only at hw
        have hPD := va_join (wr := [(qf112, .inl (cf112, 6000, .inl f112)), (qf103, .inl (cf103, 8, .inl f103)), (qf102, .inl (cf102, 2048, .inl f102)), (qf110, .inl (cf110, 96, .inl g110_101)), (qf111, .inl (cf111, 96, .inl g111_101))]) (w1 := [(h0, .inr (13, z_10))]) hP hD [5] [0, 1, 2, 3, 4] rfl rfl (by decide) (by decide) hk1 hFc hP1 hD1
        clear hP hD
        obtain ⟨hP, hD⟩ := hPD
        replace hK := (hK.sub (tys' := [(cf112, .int), (cf103, .int), (cf102, .int), (cf110, .int), (cf111, .int)]) [0, 1, 2, 3, 4] rfl).app hK1
        clear hPc hDc hKc hFc hP1 hK1 hD1 hz1 hk1 ht hvm
        generalize H1 = H at hP hS ⊢
        replace hP : va_P (dC, dI) vwCl [(qf112, .inl (cf112, 6000, .inl f112)), (qf103, .inl (cf103, 8, .inl f103)), (qf102, .inl (cf102, 2048, .inl f102)), (qf110, .inl (cf110, 96, .inl g110_101)), (qf111, .inl (cf111, 96, .inl g111_101)), (h0, .inr (13, z_10))] H := hP
        replace hD : va_D A [(qf112, .inl (cf112, 6000, .inl f112)), (qf103, .inl (cf103, 8, .inl f103)), (qf102, .inl (cf102, 2048, .inl f102)), (qf110, .inl (cf110, 96, .inl g110_101)), (qf111, .inl (cf111, 96, .inl g111_101)), (h0, .inr (13, z_10))] := hD
        replace hK : va_K (dC, dI) vwCl [(cf112, .int), (cf103, .int), (cf102, .int), (cf110, .int), (cf111, .int)] s := hK
        obtain ⟨hwa_10, hln_10, hre_10, hch_10_114⟩ := hw
        have hfk_10_102 : z_10[102]? = some (.ref qf102) := (hre_10 102 (by decide)).trans (hfk_9_102)
        have hfk_10_103 : z_10[103]? = some (.ref qf103) := (hre_10 103 (by decide)).trans (hfk_9_103)
        have hfk_10_110 : z_10[110]? = some (.ref qf110) := (hre_10 110 (by decide)).trans (hfk_9_110)
        have hfk_10_111 : z_10[111]? = some (.ref qf111) := (hre_10 111 (by decide)).trans (hfk_9_111)
        have hfk_10_112 : z_10[112]? = some (.ref qf112) := (hre_10 112 (by decide)).trans (hfk_9_112)
        have hfk_10_113 : z_10[113]? = some (.int v113) := (hre_10 113 (by decide)).trans (hfk_9_113)
        have hfk_10_115 : z_10[115]? = some (.int v115) := (hre_10 115 (by decide)).trans (hfk_9_115)
        have hrq_10 : ∀ j : Nat, j ≠ 114 → z_10[j]? = zs[j]? := fun j g114 => (hre_10 j g114).trans (hrq_9 j g114)
        exact hj_134 (H, locs, ls, z_10, l1_101, l2_101, l4_101, g110_101, g111_101, u10_0) ⟨lv_sub hl [0, 1, 2, 3] rfl, hS, hD.sub (ws' := [(h0, .inr (13, z_10)), (qf112, .inl (cf112, 6000, .inl f112)), (qf103, .inl (cf103, 8, .inl f103)), (qf102, .inl (cf102, 2048, .inl f102)), (qf110, .inl (cf110, 96, .inl g110_101)), (qf111, .inl (cf111, 96, .inl g111_101))]) [5, 0, 1, 2, 3, 4] (by decide) rfl, hP.sub (ws' := [(h0, .inr (13, z_10)), (qf112, .inl (cf112, 6000, .inl f112)), (qf103, .inl (cf103, 8, .inl f103)), (qf102, .inl (cf102, 2048, .inl f102)), (qf110, .inl (cf110, 96, .inl g110_101)), (qf111, .inl (cf111, 96, .inl g111_101))]) [5, 0, 1, 2, 3, 4] rfl, hfk_10_102, hfk_10_103, hfk_10_110, hfk_10_111, hfk_10_112, hfk_10_113, hch_10_114, hfk_10_115, hln_10, hrq_10, hsp⟩
  intro hj_101
  refine jn_use (α := Heap × List Loc × Array Slot × List Value × Int32 × Int32 × Int32 × (Nat → Int32) × (Nat → Int32) × Int32) (fun x9 => x9.1) (fun x9 => x9.2.1) (fun x9 => F0 m 65 x9.2.2.1 []) (fun x9 => match x9 with | (H, locs, ls, z65, l1_65, l2_65, l4_65, g110_65, g111_65, x114_65) => lv_has ls 11 [(0, .ref h0), (1, .int l1_65), (2, .int l2_65), (4, .int l4_65)] ∧ va_S A s.heap H locs ∧ va_D A [(h0, .inr (13, z65)), (qf112, .inl (cf112, 6000, .inl f112)), (qf103, .inl (cf103, 8, .inl f103)), (qf102, .inl (cf102, 2048, .inl f102)), (qf110, .inl (cf110, 96, .inl g110_65)), (qf111, .inl (cf111, 96, .inl g111_65))] ∧ va_P (dC, dI) vwCl [(h0, .inr (13, z65)), (qf112, .inl (cf112, 6000, .inl f112)), (qf103, .inl (cf103, 8, .inl f103)), (qf102, .inl (cf102, 2048, .inl f102)), (qf110, .inl (cf110, 96, .inl g110_65)), (qf111, .inl (cf111, 96, .inl g111_65))] H ∧ z65[102]? = some (.ref qf102) ∧ z65[103]? = some (.ref qf103) ∧ z65[110]? = some (.ref qf110) ∧ z65[111]? = some (.ref qf111) ∧ z65[112]? = some (.ref qf112) ∧ z65[113]? = some (.int v113) ∧ z65[114]? = some (.int x114_65) ∧ z65[115]? = some (.int v115) ∧ z65.length = 155 ∧ (∀ j : Nat, j ≠ 114 → z65[j]? = zs[j]?) ∧ jn_vm_scanMethod_65 nf a1 a2 a3 v113 v114 v115 f112 f103 f102 f110 f111 l1_65 l2_65 l4_65 g110_65 g111_65 x114_65 = some (r0, o110, o111, w114)) ?_ ?_
  · intro x9 hJ9
    obtain ⟨H, locs, ls, z65, l1_65, l2_65, l4_65, g110_65, g111_65, x114_65⟩ := x9
    obtain ⟨hl, hS, hD, hP, hfh_65_102, hfh_65_103, hfh_65_110, hfh_65_111, hfh_65_112, hfh_65_113, hfh_65_114, hfh_65_115, hlh_65, hrh_65, hsp⟩ := hJ9
    replace hl : lv_has ls 11 [(0, .ref h0), (1, .int l1_65), (2, .int l2_65), (4, .int l4_65)] := hl
    replace hS : va_S A s.heap H locs := hS
    replace hD : va_D A [(h0, .inr (13, z65)), (qf112, .inl (cf112, 6000, .inl f112)), (qf103, .inl (cf103, 8, .inl f103)), (qf102, .inl (cf102, 2048, .inl f102)), (qf110, .inl (cf110, 96, .inl g110_65)), (qf111, .inl (cf111, 96, .inl g111_65))] := hD
    replace hP : va_P (dC, dI) vwCl [(h0, .inr (13, z65)), (qf112, .inl (cf112, 6000, .inl f112)), (qf103, .inl (cf103, 8, .inl f103)), (qf102, .inl (cf102, 2048, .inl f102)), (qf110, .inl (cf110, 96, .inl g110_65)), (qf111, .inl (cf111, 96, .inl g111_65))] H := hP
    replace hsp : jn_vm_scanMethod_65 nf a1 a2 a3 v113 v114 v115 f112 f103 f102 f110 f111 l1_65 l2_65 l4_65 g110_65 g111_65 x114_65 = some (r0, o110, o111, w114) := hsp
    show W _ _ _ _ _ _ _ _ _ _ H locs _ _ _ (F0 m 65 ls [])
    unfold jn_vm_scanMethod_65 at hsp
    try dsimp only at hsp
    refine lv_aload_n hx hb dX13_scanMethod_65 rfl (lv_at hl 0 rfl) ?_
    refine lv_iload hx hb dX13_scanMethod_66 (lv_at hl 3 rfl) ?_
    refine lv_iconst (v := 2) hx hb dX13_scanMethod_68 (by decide) ?_
    refine lv_iadd hx hb dX13_scanMethod_69 ?_
    obtain ⟨⟨u6_0, u6_1⟩, hu_6, hsp⟩ := ox_bind hsp
    try dsimp only at hsp
    have hPc := hP.sub (ws' := [(h0, .inr (13, z65))]) [0] rfl
    have hDc := hD.sub (ws' := [(h0, .inr (13, z65))]) [0] (by decide) rfl
    have hKc := hK.sub (tys' := []) [] rfl
    have hFc := va_free (wc := [(h0, .inr (13, z65))]) hD hS hA [0] rfl
    refine va_calli (va_runV (As := [.int (l4_65 + 2)]) (rest := []) ⟨hx, hb, hml, hown, hts⟩ (tm_isByte l dC dI H.size h0 z65 ((l4_65 + 2)) v113 x114_65 nf u6_0 u6_1 hlh_65 hfh_65_113 hfh_65_114 hu_6) (cwV 1 hts gv_h9_47 rfl rfl rfl (by decide +kernel) ⟨Nat.le_of_ble_eq_true rfl, Nat.le_of_ble_eq_true rfl⟩) ⟨fun a U g mk q => by obtain ⟨q0, q1, qP, qK, qD⟩ := q; exact ⟨q0, q1, qP, va_K.moved (u := U) (U := U.calling g mk a) (Vm.Alike.refl U.vm) qK, qD⟩, va_recv hKc hPc (ci := 13) (q0 := 0) rfl rfl, fun U hU hW => ⟨rfl, by rw [hU], by rw [hU]; exact hPc, va_K.moved hW.alike hKc, hDc.weaken (fun _ _ _ _ => trivial)⟩⟩ rfl rfl hl.1 rfl (lv_room (Nat.le_of_ble_eq_true rfl)) dX13_scanMethod_70 ⟨Nat.le_of_ble_eq_true rfl, Nat.le_of_ble_eq_true rfl⟩) hS (fun q _ h => hFc q h) hFc ?_
    clear hS
    intro r_13 u t H1 locs ht hvm hw hB hz1 hk1 hS
    obtain ⟨z_6, rfl⟩ : ∃ z, z = u := ⟨_, rfl⟩
    obtain ⟨hP1, hK1, hD1⟩ := hB
    rw [ht] at hP1
    have hK1 := va_K.moved hvm.symm hK1
    try dsimp only at hw
    have hPD := va_join (wr := [(qf112, .inl (cf112, 6000, .inl f112)), (qf103, .inl (cf103, 8, .inl f103)), (qf102, .inl (cf102, 2048, .inl f102)), (qf110, .inl (cf110, 96, .inl g110_65)), (qf111, .inl (cf111, 96, .inl g111_65))]) (w1 := [(h0, .inr (13, z_6))]) hP hD [0] [1, 2, 3, 4, 5] rfl rfl (by decide) (by decide) hk1 hFc hP1 hD1
    clear hP hD
    obtain ⟨hP, hD⟩ := hPD
    replace hK := (hK.sub (tys' := [(cf112, .int), (cf103, .int), (cf102, .int), (cf110, .int), (cf111, .int)]) [0, 1, 2, 3, 4] rfl).app hK1
    clear hPc hDc hKc hFc hP1 hK1 hD1 hz1 hk1 ht hvm
    generalize H1 = H at hP hS ⊢
    replace hP : va_P (dC, dI) vwCl [(qf112, .inl (cf112, 6000, .inl f112)), (qf103, .inl (cf103, 8, .inl f103)), (qf102, .inl (cf102, 2048, .inl f102)), (qf110, .inl (cf110, 96, .inl g110_65)), (qf111, .inl (cf111, 96, .inl g111_65)), (h0, .inr (13, z_6))] H := hP
    replace hD : va_D A [(qf112, .inl (cf112, 6000, .inl f112)), (qf103, .inl (cf103, 8, .inl f103)), (qf102, .inl (cf102, 2048, .inl f102)), (qf110, .inl (cf110, 96, .inl g110_65)), (qf111, .inl (cf111, 96, .inl g111_65)), (h0, .inr (13, z_6))] := hD
    replace hK : va_K (dC, dI) vwCl [(cf112, .int), (cf103, .int), (cf102, .int), (cf110, .int), (cf111, .int)] s := hK
    obtain ⟨hwa_6, hln_6, hre_6, hch_6_114⟩ := hw
    have hfk_6_102 : z_6[102]? = some (.ref qf102) := (hre_6 102 (by decide)).trans (hfh_65_102)
    have hfk_6_103 : z_6[103]? = some (.ref qf103) := (hre_6 103 (by decide)).trans (hfh_65_103)
    have hfk_6_110 : z_6[110]? = some (.ref qf110) := (hre_6 110 (by decide)).trans (hfh_65_110)
    have hfk_6_111 : z_6[111]? = some (.ref qf111) := (hre_6 111 (by decide)).trans (hfh_65_111)
    have hfk_6_112 : z_6[112]? = some (.ref qf112) := (hre_6 112 (by decide)).trans (hfh_65_112)
    have hfk_6_113 : z_6[113]? = some (.int v113) := (hre_6 113 (by decide)).trans (hfh_65_113)
    have hfk_6_115 : z_6[115]? = some (.int v115) := (hre_6 115 (by decide)).trans (hfh_65_115)
    have hrq_6 : ∀ j : Nat, j ≠ 114 → z_6[j]? = zs[j]? := fun j g114 => (hre_6 j g114).trans (hrh_65 j g114)
    obtain ⟨rfl, hz_6⟩ := hwa_6
    rcases hz_6 with rfl | rfl
    · rw [if_pos rfl] at hsp
      refine lv_if_eq (tgt := 101) hx hb dX13_scanMethod_73 (by decide) (fun c_14 => ?_) (fun c_14 => (show False by revert c_14; decide).elim)
      exact hj_101 (H, locs, ls, z_6, l1_65, l2_65, l4_65, g110_65, g111_65, u6_1) ⟨lv_sub hl [0, 1, 2, 3] rfl, hS, hD.sub (ws' := [(h0, .inr (13, z_6)), (qf112, .inl (cf112, 6000, .inl f112)), (qf103, .inl (cf103, 8, .inl f103)), (qf102, .inl (cf102, 2048, .inl f102)), (qf110, .inl (cf110, 96, .inl g110_65)), (qf111, .inl (cf111, 96, .inl g111_65))]) [5, 0, 1, 2, 3, 4] (by decide) rfl, hP.sub (ws' := [(h0, .inr (13, z_6)), (qf112, .inl (cf112, 6000, .inl f112)), (qf103, .inl (cf103, 8, .inl f103)), (qf102, .inl (cf102, 2048, .inl f102)), (qf110, .inl (cf110, 96, .inl g110_65)), (qf111, .inl (cf111, 96, .inl g111_65))]) [5, 0, 1, 2, 3, 4] rfl, hfk_6_102, hfk_6_103, hfk_6_110, hfk_6_111, hfk_6_112, hfk_6_113, hch_6_114, hfk_6_115, hln_6, hrq_6, hsp⟩
    · rw [if_neg (by decide)] at hsp
      refine lv_if_eq (tgt := 101) hx hb dX13_scanMethod_73 (by decide) (fun c_15 => (show False by revert c_15; decide).elim) (fun c_15 => ?_)
      refine lv_aload_n hx hb dX13_scanMethod_76 rfl (lv_at hl 0 rfl) ?_
      refine lv_aload_n hx hb dX13_scanMethod_77 rfl (lv_at hl 0 rfl) ?_
      refine va_get (D := (dC, dI)) (ci := 13) (v := .ref qf112) (C := RX13) (T := TX13) (N := 155) hx hb hts uV_h9_X13 hown hK hP 5 rfl rfl 112 (by decide) (hts (.fieldLink RX13 245 "ClassMillModel" "look" "[I") mw_h9_242) (fun _ h9 => h9) hfk_6_112 dX13_scanMethod_78 ?_
      refine lv_iload hx hb dX13_scanMethod_81 (lv_at hl 3 rfl) ?_
      refine lv_iconst (v := 2) hx hb dX13_scanMethod_83 (by decide) ?_
      refine lv_iadd hx hb dX13_scanMethod_84 ?_
      obtain ⟨hi_16, hsp⟩ := ox_in hsp
      refine va_iald hx hb hK hP 0 0 rfl rfl (i := (l4_65 + 2)) hi_16 dX13_scanMethod_85 ?_
      refine lv_iconst (v := 2) hx hb dX13_scanMethod_86 (by decide) ?_
      obtain ⟨u7_0, hu_7, hsp⟩ := ox_bind hsp
      try dsimp only at hsp
      have hPc := hP.sub (ws' := [(h0, .inr (13, z_6)), (qf103, .inl (cf103, 8, .inl f103)), (qf102, .inl (cf102, 2048, .inl f102)), (qf112, .inl (cf112, 6000, .inl f112))]) [5, 1, 2, 0] rfl
      have hDc := hD.sub (ws' := [(h0, .inr (13, z_6)), (qf103, .inl (cf103, 8, .inl f103)), (qf102, .inl (cf102, 2048, .inl f102)), (qf112, .inl (cf112, 6000, .inl f112))]) [5, 1, 2, 0] (by decide) rfl
      have hKc := hK.sub (tys' := [(cf103, .int), (cf102, .int), (cf112, .int)]) [1, 2, 0] rfl
      have hFc := va_free (wc := [(h0, .inr (13, z_6)), (qf103, .inl (cf103, 8, .inl f103)), (qf102, .inl (cf102, 2048, .inl f102)), (qf112, .inl (cf112, 6000, .inl f112))]) hD hS hA [5, 1, 2, 0] rfl
      refine va_calli (va_runV (As := [.int (f112 ((l4_65 + 2) : Int32).toNatClampNeg), .int 2]) (rest := []) ⟨hx, hb, hml, hown, hts⟩ (vm_isText l dC dI H.size h0 z_6 ((f112 ((l4_65 + 2) : Int32).toNatClampNeg)) 2 qf102 qf103 qf112 v115 cf103 f103 cf102 f102 cf112 f112 nf u7_0 hln_6 hfk_6_102 hfk_6_103 hfk_6_112 hfk_6_115 hu_7) (cwV 2 hts gv_h9_49 rfl rfl rfl (by decide +kernel) ⟨Nat.le_of_ble_eq_true rfl, Nat.le_of_ble_eq_true rfl⟩) ⟨fun a U g mk q => by obtain ⟨q0, q1, qP, qK, qD⟩ := q; exact ⟨q0, q1, qP, va_K.moved (u := U) (U := U.calling g mk a) (Vm.Alike.refl U.vm) qK, qD⟩, va_recv hKc hPc (ci := 13) (q0 := 0) rfl rfl, fun U hU hW => ⟨rfl, by rw [hU], by rw [hU]; exact hPc, va_K.moved hW.alike hKc, hDc.weaken (fun _ _ _ _ => trivial)⟩⟩ rfl rfl hl.1 rfl (lv_room (Nat.le_of_ble_eq_true rfl)) dX13_scanMethod_87 ⟨Nat.le_of_ble_eq_true rfl, Nat.le_of_ble_eq_true rfl⟩) hS (fun q _ h => hFc q h) hFc ?_
      clear hS
      intro r_17 u t H1 locs ht hvm hw hB hz1 hk1 hS
      obtain ⟨z_7, rfl⟩ : ∃ z, z = u := ⟨_, rfl⟩
      obtain ⟨hP1, hK1, hD1⟩ := hB
      rw [ht] at hP1
      have hK1 := va_K.moved hvm.symm hK1
      try dsimp only at hw
      have hPD := va_join (wr := [(qf110, .inl (cf110, 96, .inl g110_65)), (qf111, .inl (cf111, 96, .inl g111_65))]) (w1 := [(h0, .inr (13, z_7)), (qf103, .inl (cf103, 8, .inl f103)), (qf102, .inl (cf102, 2048, .inl f102)), (qf112, .inl (cf112, 6000, .inl f112))]) hP hD [5, 1, 2, 0] [3, 4] rfl rfl (by decide) (by decide) hk1 hFc hP1 hD1
      clear hP hD
      obtain ⟨hP, hD⟩ := hPD
      replace hK := (hK.sub (tys' := [(cf110, .int), (cf111, .int)]) [3, 4] rfl).app hK1
      clear hPc hDc hKc hFc hP1 hK1 hD1 hz1 hk1 ht hvm
      generalize H1 = H at hP hS ⊢
      replace hP : va_P (dC, dI) vwCl [(qf110, .inl (cf110, 96, .inl g110_65)), (qf111, .inl (cf111, 96, .inl g111_65)), (h0, .inr (13, z_7)), (qf103, .inl (cf103, 8, .inl f103)), (qf102, .inl (cf102, 2048, .inl f102)), (qf112, .inl (cf112, 6000, .inl f112))] H := hP
      replace hD : va_D A [(qf110, .inl (cf110, 96, .inl g110_65)), (qf111, .inl (cf111, 96, .inl g111_65)), (h0, .inr (13, z_7)), (qf103, .inl (cf103, 8, .inl f103)), (qf102, .inl (cf102, 2048, .inl f102)), (qf112, .inl (cf112, 6000, .inl f112))] := hD
      replace hK : va_K (dC, dI) vwCl [(cf110, .int), (cf111, .int), (cf103, .int), (cf102, .int), (cf112, .int)] s := hK
      obtain ⟨hwa_7, hln_7, hre_7⟩ := hw
      have hfk_7_102 : z_7[102]? = some (.ref qf102) := (hre_7 102 ).trans (hfk_6_102)
      have hfk_7_103 : z_7[103]? = some (.ref qf103) := (hre_7 103 ).trans (hfk_6_103)
      have hfk_7_110 : z_7[110]? = some (.ref qf110) := (hre_7 110 ).trans (hfk_6_110)
      have hfk_7_111 : z_7[111]? = some (.ref qf111) := (hre_7 111 ).trans (hfk_6_111)
      have hfk_7_112 : z_7[112]? = some (.ref qf112) := (hre_7 112 ).trans (hfk_6_112)
      have hfk_7_113 : z_7[113]? = some (.int v113) := (hre_7 113 ).trans (hfk_6_113)
      have hfk_7_114 : z_7[114]? = some (.int u6_1) := (hre_7 114 ).trans (hch_6_114)
      have hfk_7_115 : z_7[115]? = some (.int v115) := (hre_7 115 ).trans (hfk_6_115)
      have hrq_7 : ∀ j : Nat, j ≠ 114 → z_7[j]? = zs[j]? := fun j g114 => (hre_7 j ).trans (hrq_6 j g114)
      obtain ⟨rfl, hz_7⟩ := hwa_7
      rcases hz_7 with rfl | rfl
      · rw [if_pos rfl] at hsp
        refine lv_if_ne (tgt := 101) hx hb dX13_scanMethod_90 (by decide) (fun c_18 => (show False by revert c_18; decide).elim) (fun c_18 => ?_)
        refine lv_aload_n hx hb dX13_scanMethod_93 rfl (lv_at hl 0 rfl) ?_
        refine lv_iload hx hb dX13_scanMethod_94 (lv_at hl 3 rfl) ?_
        refine lv_iconst (v := 2) hx hb dX13_scanMethod_96 (by decide) ?_
        refine lv_iadd hx hb dX13_scanMethod_97 ?_
        obtain ⟨u8_0, hu_8, hsp⟩ := ox_bind hsp
        try dsimp only at hsp
        have hPc := hP.sub (ws' := [(h0, .inr (13, z_7))]) [2] rfl
        have hDc := hD.sub (ws' := [(h0, .inr (13, z_7))]) [2] (by decide) rfl
        have hKc := hK.sub (tys' := []) [] rfl
        have hFc := va_free (wc := [(h0, .inr (13, z_7))]) hD hS hA [2] rfl
        refine va_callv (va_runV (As := [.int (l4_65 + 2)]) (rest := []) ⟨hx, hb, hml, hown, hts⟩ (tm_unfit l dC dI H.size h0 z_7 ((l4_65 + 2)) u6_1 nf u8_0 hln_7 hfk_7_114 hu_8) (cwV 1 hts gv_h9_48 rfl rfl rfl (by decide +kernel) ⟨Nat.le_of_ble_eq_true rfl, Nat.le_of_ble_eq_true rfl⟩) ⟨fun a U g mk q => by obtain ⟨q0, q1, qP, qK, qD⟩ := q; exact ⟨q0, q1, qP, va_K.moved (u := U) (U := U.calling g mk a) (Vm.Alike.refl U.vm) qK, qD⟩, va_recv hKc hPc (ci := 13) (q0 := 0) rfl rfl, fun U hU hW => ⟨rfl, by rw [hU], by rw [hU]; exact hPc, va_K.moved hW.alike hKc, hDc.weaken (fun _ _ _ _ => trivial)⟩⟩ rfl rfl hl.1 rfl (lv_room (Nat.le_of_ble_eq_true rfl)) dX13_scanMethod_98 ⟨Nat.le_of_ble_eq_true rfl, Nat.le_of_ble_eq_true rfl⟩) hS (fun q _ h => hFc q h) hFc ?_
        clear hS
        intro u t H1 locs ht hvm hw hB hz1 hk1 hS
        obtain ⟨z_8, rfl⟩ : ∃ z, z = u := ⟨_, rfl⟩
        obtain ⟨hP1, hK1, hD1⟩ := hB
        rw [ht] at hP1
        have hK1 := va_K.moved hvm.symm hK1
        try dsimp only at hw
        have hPD := va_join (wr := [(qf110, .inl (cf110, 96, .inl g110_65)), (qf111, .inl (cf111, 96, .inl g111_65)), (qf103, .inl (cf103, 8, .inl f103)), (qf102, .inl (cf102, 2048, .inl f102)), (qf112, .inl (cf112, 6000, .inl f112))]) (w1 := [(h0, .inr (13, z_8))]) hP hD [2] [0, 1, 3, 4, 5] rfl rfl (by decide) (by decide) hk1 hFc hP1 hD1
        clear hP hD
        obtain ⟨hP, hD⟩ := hPD
        replace hK := (hK.sub (tys' := [(cf110, .int), (cf111, .int), (cf103, .int), (cf102, .int), (cf112, .int)]) [0, 1, 2, 3, 4] rfl).app hK1
        clear hPc hDc hKc hFc hP1 hK1 hD1 hz1 hk1 ht hvm
        generalize H1 = H at hP hS ⊢
        replace hP : va_P (dC, dI) vwCl [(qf110, .inl (cf110, 96, .inl g110_65)), (qf111, .inl (cf111, 96, .inl g111_65)), (qf103, .inl (cf103, 8, .inl f103)), (qf102, .inl (cf102, 2048, .inl f102)), (qf112, .inl (cf112, 6000, .inl f112)), (h0, .inr (13, z_8))] H := hP
        replace hD : va_D A [(qf110, .inl (cf110, 96, .inl g110_65)), (qf111, .inl (cf111, 96, .inl g111_65)), (qf103, .inl (cf103, 8, .inl f103)), (qf102, .inl (cf102, 2048, .inl f102)), (qf112, .inl (cf112, 6000, .inl f112)), (h0, .inr (13, z_8))] := hD
        replace hK : va_K (dC, dI) vwCl [(cf110, .int), (cf111, .int), (cf103, .int), (cf102, .int), (cf112, .int)] s := hK
        obtain ⟨hwa_8, hln_8, hre_8, hch_8_114⟩ := hw
        have hfk_8_102 : z_8[102]? = some (.ref qf102) := (hre_8 102 (by decide)).trans (hfk_7_102)
        have hfk_8_103 : z_8[103]? = some (.ref qf103) := (hre_8 103 (by decide)).trans (hfk_7_103)
        have hfk_8_110 : z_8[110]? = some (.ref qf110) := (hre_8 110 (by decide)).trans (hfk_7_110)
        have hfk_8_111 : z_8[111]? = some (.ref qf111) := (hre_8 111 (by decide)).trans (hfk_7_111)
        have hfk_8_112 : z_8[112]? = some (.ref qf112) := (hre_8 112 (by decide)).trans (hfk_7_112)
        have hfk_8_113 : z_8[113]? = some (.int v113) := (hre_8 113 (by decide)).trans (hfk_7_113)
        have hfk_8_115 : z_8[115]? = some (.int v115) := (hre_8 115 (by decide)).trans (hfk_7_115)
        have hrq_8 : ∀ j : Nat, j ≠ 114 → z_8[j]? = zs[j]? := fun j g114 => (hre_8 j g114).trans (hrq_7 j g114)
        exact hj_101 (H, locs, ls, z_8, l1_65, l2_65, l4_65, g110_65, g111_65, u8_0) ⟨lv_sub hl [0, 1, 2, 3] rfl, hS, hD.sub (ws' := [(h0, .inr (13, z_8)), (qf112, .inl (cf112, 6000, .inl f112)), (qf103, .inl (cf103, 8, .inl f103)), (qf102, .inl (cf102, 2048, .inl f102)), (qf110, .inl (cf110, 96, .inl g110_65)), (qf111, .inl (cf111, 96, .inl g111_65))]) [5, 4, 2, 3, 0, 1] (by decide) rfl, hP.sub (ws' := [(h0, .inr (13, z_8)), (qf112, .inl (cf112, 6000, .inl f112)), (qf103, .inl (cf103, 8, .inl f103)), (qf102, .inl (cf102, 2048, .inl f102)), (qf110, .inl (cf110, 96, .inl g110_65)), (qf111, .inl (cf111, 96, .inl g111_65))]) [5, 4, 2, 3, 0, 1] rfl, hfk_8_102, hfk_8_103, hfk_8_110, hfk_8_111, hfk_8_112, hfk_8_113, hch_8_114, hfk_8_115, hln_8, hrq_8, hsp⟩
      · rw [if_neg (by decide)] at hsp
        refine lv_if_ne (tgt := 101) hx hb dX13_scanMethod_90 (by decide) (fun c_19 => ?_) (fun c_19 => (show False by revert c_19; decide).elim)
        exact hj_101 (H, locs, ls, z_7, l1_65, l2_65, l4_65, g110_65, g111_65, u6_1) ⟨lv_sub hl [0, 1, 2, 3] rfl, hS, hD.sub (ws' := [(h0, .inr (13, z_7)), (qf112, .inl (cf112, 6000, .inl f112)), (qf103, .inl (cf103, 8, .inl f103)), (qf102, .inl (cf102, 2048, .inl f102)), (qf110, .inl (cf110, 96, .inl g110_65)), (qf111, .inl (cf111, 96, .inl g111_65))]) [2, 5, 3, 4, 0, 1] (by decide) rfl, hP.sub (ws' := [(h0, .inr (13, z_7)), (qf112, .inl (cf112, 6000, .inl f112)), (qf103, .inl (cf103, 8, .inl f103)), (qf102, .inl (cf102, 2048, .inl f102)), (qf110, .inl (cf110, 96, .inl g110_65)), (qf111, .inl (cf111, 96, .inl g111_65))]) [2, 5, 3, 4, 0, 1] rfl, hfk_7_102, hfk_7_103, hfk_7_110, hfk_7_111, hfk_7_112, hfk_7_113, hfk_7_114, hfk_7_115, hln_7, hrq_7, hsp⟩
  intro hj_65
  refine jn_use (α := Heap × List Loc × Array Slot × List Value × Int32 × Int32 × Int32 × (Nat → Int32) × (Nat → Int32) × Int32) (fun x9 => x9.1) (fun x9 => x9.2.1) (fun x9 => F0 m 29 x9.2.2.1 []) (fun x9 => match x9 with | (H, locs, ls, z29, l1_29, l2_29, l4_29, g110_29, g111_29, x114_29) => lv_has ls 11 [(0, .ref h0), (1, .int l1_29), (2, .int l2_29), (4, .int l4_29)] ∧ va_S A s.heap H locs ∧ va_D A [(h0, .inr (13, z29)), (qf112, .inl (cf112, 6000, .inl f112)), (qf103, .inl (cf103, 8, .inl f103)), (qf102, .inl (cf102, 2048, .inl f102)), (qf110, .inl (cf110, 96, .inl g110_29)), (qf111, .inl (cf111, 96, .inl g111_29))] ∧ va_P (dC, dI) vwCl [(h0, .inr (13, z29)), (qf112, .inl (cf112, 6000, .inl f112)), (qf103, .inl (cf103, 8, .inl f103)), (qf102, .inl (cf102, 2048, .inl f102)), (qf110, .inl (cf110, 96, .inl g110_29)), (qf111, .inl (cf111, 96, .inl g111_29))] H ∧ z29[102]? = some (.ref qf102) ∧ z29[103]? = some (.ref qf103) ∧ z29[110]? = some (.ref qf110) ∧ z29[111]? = some (.ref qf111) ∧ z29[112]? = some (.ref qf112) ∧ z29[113]? = some (.int v113) ∧ z29[114]? = some (.int x114_29) ∧ z29[115]? = some (.int v115) ∧ z29.length = 155 ∧ (∀ j : Nat, j ≠ 114 → z29[j]? = zs[j]?) ∧ jn_vm_scanMethod_29 nf a1 a2 a3 v113 v114 v115 f112 f103 f102 f110 f111 l1_29 l2_29 l4_29 g110_29 g111_29 x114_29 = some (r0, o110, o111, w114)) ?_ ?_
  · intro x9 hJ9
    obtain ⟨H, locs, ls, z29, l1_29, l2_29, l4_29, g110_29, g111_29, x114_29⟩ := x9
    obtain ⟨hl, hS, hD, hP, hfh_29_102, hfh_29_103, hfh_29_110, hfh_29_111, hfh_29_112, hfh_29_113, hfh_29_114, hfh_29_115, hlh_29, hrh_29, hsp⟩ := hJ9
    replace hl : lv_has ls 11 [(0, .ref h0), (1, .int l1_29), (2, .int l2_29), (4, .int l4_29)] := hl
    replace hS : va_S A s.heap H locs := hS
    replace hD : va_D A [(h0, .inr (13, z29)), (qf112, .inl (cf112, 6000, .inl f112)), (qf103, .inl (cf103, 8, .inl f103)), (qf102, .inl (cf102, 2048, .inl f102)), (qf110, .inl (cf110, 96, .inl g110_29)), (qf111, .inl (cf111, 96, .inl g111_29))] := hD
    replace hP : va_P (dC, dI) vwCl [(h0, .inr (13, z29)), (qf112, .inl (cf112, 6000, .inl f112)), (qf103, .inl (cf103, 8, .inl f103)), (qf102, .inl (cf102, 2048, .inl f102)), (qf110, .inl (cf110, 96, .inl g110_29)), (qf111, .inl (cf111, 96, .inl g111_29))] H := hP
    replace hsp : jn_vm_scanMethod_29 nf a1 a2 a3 v113 v114 v115 f112 f103 f102 f110 f111 l1_29 l2_29 l4_29 g110_29 g111_29 x114_29 = some (r0, o110, o111, w114) := hsp
    show W _ _ _ _ _ _ _ _ _ _ H locs _ _ _ (F0 m 29 ls [])
    unfold jn_vm_scanMethod_29 at hsp
    try dsimp only at hsp
    refine lv_aload_n hx hb dX13_scanMethod_29 rfl (lv_at hl 0 rfl) ?_
    refine lv_iload hx hb dX13_scanMethod_30 (lv_at hl 3 rfl) ?_
    refine lv_iconst (v := 1) hx hb dX13_scanMethod_32 (by decide) ?_
    refine lv_iadd hx hb dX13_scanMethod_33 ?_
    obtain ⟨⟨u3_0, u3_1⟩, hu_3, hsp⟩ := ox_bind hsp
    try dsimp only at hsp
    have hPc := hP.sub (ws' := [(h0, .inr (13, z29))]) [0] rfl
    have hDc := hD.sub (ws' := [(h0, .inr (13, z29))]) [0] (by decide) rfl
    have hKc := hK.sub (tys' := []) [] rfl
    have hFc := va_free (wc := [(h0, .inr (13, z29))]) hD hS hA [0] rfl
    refine va_calli (va_runV (As := [.int (l4_29 + 1)]) (rest := []) ⟨hx, hb, hml, hown, hts⟩ (tm_isByte l dC dI H.size h0 z29 ((l4_29 + 1)) v113 x114_29 nf u3_0 u3_1 hlh_29 hfh_29_113 hfh_29_114 hu_3) (cwV 1 hts gv_h9_47 rfl rfl rfl (by decide +kernel) ⟨Nat.le_of_ble_eq_true rfl, Nat.le_of_ble_eq_true rfl⟩) ⟨fun a U g mk q => by obtain ⟨q0, q1, qP, qK, qD⟩ := q; exact ⟨q0, q1, qP, va_K.moved (u := U) (U := U.calling g mk a) (Vm.Alike.refl U.vm) qK, qD⟩, va_recv hKc hPc (ci := 13) (q0 := 0) rfl rfl, fun U hU hW => ⟨rfl, by rw [hU], by rw [hU]; exact hPc, va_K.moved hW.alike hKc, hDc.weaken (fun _ _ _ _ => trivial)⟩⟩ rfl rfl hl.1 rfl (lv_room (Nat.le_of_ble_eq_true rfl)) dX13_scanMethod_34 ⟨Nat.le_of_ble_eq_true rfl, Nat.le_of_ble_eq_true rfl⟩) hS (fun q _ h => hFc q h) hFc ?_
    clear hS
    intro r_6 u t H1 locs ht hvm hw hB hz1 hk1 hS
    obtain ⟨z_3, rfl⟩ : ∃ z, z = u := ⟨_, rfl⟩
    obtain ⟨hP1, hK1, hD1⟩ := hB
    rw [ht] at hP1
    have hK1 := va_K.moved hvm.symm hK1
    try dsimp only at hw
    have hPD := va_join (wr := [(qf112, .inl (cf112, 6000, .inl f112)), (qf103, .inl (cf103, 8, .inl f103)), (qf102, .inl (cf102, 2048, .inl f102)), (qf110, .inl (cf110, 96, .inl g110_29)), (qf111, .inl (cf111, 96, .inl g111_29))]) (w1 := [(h0, .inr (13, z_3))]) hP hD [0] [1, 2, 3, 4, 5] rfl rfl (by decide) (by decide) hk1 hFc hP1 hD1
    clear hP hD
    obtain ⟨hP, hD⟩ := hPD
    replace hK := (hK.sub (tys' := [(cf112, .int), (cf103, .int), (cf102, .int), (cf110, .int), (cf111, .int)]) [0, 1, 2, 3, 4] rfl).app hK1
    clear hPc hDc hKc hFc hP1 hK1 hD1 hz1 hk1 ht hvm
    generalize H1 = H at hP hS ⊢
    replace hP : va_P (dC, dI) vwCl [(qf112, .inl (cf112, 6000, .inl f112)), (qf103, .inl (cf103, 8, .inl f103)), (qf102, .inl (cf102, 2048, .inl f102)), (qf110, .inl (cf110, 96, .inl g110_29)), (qf111, .inl (cf111, 96, .inl g111_29)), (h0, .inr (13, z_3))] H := hP
    replace hD : va_D A [(qf112, .inl (cf112, 6000, .inl f112)), (qf103, .inl (cf103, 8, .inl f103)), (qf102, .inl (cf102, 2048, .inl f102)), (qf110, .inl (cf110, 96, .inl g110_29)), (qf111, .inl (cf111, 96, .inl g111_29)), (h0, .inr (13, z_3))] := hD
    replace hK : va_K (dC, dI) vwCl [(cf112, .int), (cf103, .int), (cf102, .int), (cf110, .int), (cf111, .int)] s := hK
    obtain ⟨hwa_3, hln_3, hre_3, hch_3_114⟩ := hw
    have hfk_3_102 : z_3[102]? = some (.ref qf102) := (hre_3 102 (by decide)).trans (hfh_29_102)
    have hfk_3_103 : z_3[103]? = some (.ref qf103) := (hre_3 103 (by decide)).trans (hfh_29_103)
    have hfk_3_110 : z_3[110]? = some (.ref qf110) := (hre_3 110 (by decide)).trans (hfh_29_110)
    have hfk_3_111 : z_3[111]? = some (.ref qf111) := (hre_3 111 (by decide)).trans (hfh_29_111)
    have hfk_3_112 : z_3[112]? = some (.ref qf112) := (hre_3 112 (by decide)).trans (hfh_29_112)
    have hfk_3_113 : z_3[113]? = some (.int v113) := (hre_3 113 (by decide)).trans (hfh_29_113)
    have hfk_3_115 : z_3[115]? = some (.int v115) := (hre_3 115 (by decide)).trans (hfh_29_115)
    have hrq_3 : ∀ j : Nat, j ≠ 114 → z_3[j]? = zs[j]? := fun j g114 => (hre_3 j g114).trans (hrh_29 j g114)
    obtain ⟨rfl, hz_3⟩ := hwa_3
    rcases hz_3 with rfl | rfl
    · rw [if_pos rfl] at hsp
      refine lv_if_eq (tgt := 65) hx hb dX13_scanMethod_37 (by decide) (fun c_7 => ?_) (fun c_7 => (show False by revert c_7; decide).elim)
      exact hj_65 (H, locs, ls, z_3, l1_29, l2_29, l4_29, g110_29, g111_29, u3_1) ⟨lv_sub hl [0, 1, 2, 3] rfl, hS, hD.sub (ws' := [(h0, .inr (13, z_3)), (qf112, .inl (cf112, 6000, .inl f112)), (qf103, .inl (cf103, 8, .inl f103)), (qf102, .inl (cf102, 2048, .inl f102)), (qf110, .inl (cf110, 96, .inl g110_29)), (qf111, .inl (cf111, 96, .inl g111_29))]) [5, 0, 1, 2, 3, 4] (by decide) rfl, hP.sub (ws' := [(h0, .inr (13, z_3)), (qf112, .inl (cf112, 6000, .inl f112)), (qf103, .inl (cf103, 8, .inl f103)), (qf102, .inl (cf102, 2048, .inl f102)), (qf110, .inl (cf110, 96, .inl g110_29)), (qf111, .inl (cf111, 96, .inl g111_29))]) [5, 0, 1, 2, 3, 4] rfl, hfk_3_102, hfk_3_103, hfk_3_110, hfk_3_111, hfk_3_112, hfk_3_113, hch_3_114, hfk_3_115, hln_3, hrq_3, hsp⟩
    · rw [if_neg (by decide)] at hsp
      refine lv_if_eq (tgt := 65) hx hb dX13_scanMethod_37 (by decide) (fun c_8 => (show False by revert c_8; decide).elim) (fun c_8 => ?_)
      refine lv_aload_n hx hb dX13_scanMethod_40 rfl (lv_at hl 0 rfl) ?_
      refine lv_aload_n hx hb dX13_scanMethod_41 rfl (lv_at hl 0 rfl) ?_
      refine va_get (D := (dC, dI)) (ci := 13) (v := .ref qf112) (C := RX13) (T := TX13) (N := 155) hx hb hts uV_h9_X13 hown hK hP 5 rfl rfl 112 (by decide) (hts (.fieldLink RX13 245 "ClassMillModel" "look" "[I") mw_h9_242) (fun _ h9 => h9) hfk_3_112 dX13_scanMethod_42 ?_
      refine lv_iload hx hb dX13_scanMethod_45 (lv_at hl 3 rfl) ?_
      refine lv_iconst (v := 1) hx hb dX13_scanMethod_47 (by decide) ?_
      refine lv_iadd hx hb dX13_scanMethod_48 ?_
      obtain ⟨hi_9, hsp⟩ := ox_in hsp
      refine va_iald hx hb hK hP 0 0 rfl rfl (i := (l4_29 + 1)) hi_9 dX13_scanMethod_49 ?_
      refine lv_iconst (v := 0) hx hb dX13_scanMethod_50 (by decide) ?_
      obtain ⟨u4_0, hu_4, hsp⟩ := ox_bind hsp
      try dsimp only at hsp
      have hPc := hP.sub (ws' := [(h0, .inr (13, z_3)), (qf103, .inl (cf103, 8, .inl f103)), (qf102, .inl (cf102, 2048, .inl f102)), (qf112, .inl (cf112, 6000, .inl f112))]) [5, 1, 2, 0] rfl
      have hDc := hD.sub (ws' := [(h0, .inr (13, z_3)), (qf103, .inl (cf103, 8, .inl f103)), (qf102, .inl (cf102, 2048, .inl f102)), (qf112, .inl (cf112, 6000, .inl f112))]) [5, 1, 2, 0] (by decide) rfl
      have hKc := hK.sub (tys' := [(cf103, .int), (cf102, .int), (cf112, .int)]) [1, 2, 0] rfl
      have hFc := va_free (wc := [(h0, .inr (13, z_3)), (qf103, .inl (cf103, 8, .inl f103)), (qf102, .inl (cf102, 2048, .inl f102)), (qf112, .inl (cf112, 6000, .inl f112))]) hD hS hA [5, 1, 2, 0] rfl
      refine va_calli (va_runV (As := [.int (f112 ((l4_29 + 1) : Int32).toNatClampNeg), .int 0]) (rest := []) ⟨hx, hb, hml, hown, hts⟩ (vm_isText l dC dI H.size h0 z_3 ((f112 ((l4_29 + 1) : Int32).toNatClampNeg)) 0 qf102 qf103 qf112 v115 cf103 f103 cf102 f102 cf112 f112 nf u4_0 hln_3 hfk_3_102 hfk_3_103 hfk_3_112 hfk_3_115 hu_4) (cwV 2 hts gv_h9_49 rfl rfl rfl (by decide +kernel) ⟨Nat.le_of_ble_eq_true rfl, Nat.le_of_ble_eq_true rfl⟩) ⟨fun a U g mk q => by obtain ⟨q0, q1, qP, qK, qD⟩ := q; exact ⟨q0, q1, qP, va_K.moved (u := U) (U := U.calling g mk a) (Vm.Alike.refl U.vm) qK, qD⟩, va_recv hKc hPc (ci := 13) (q0 := 0) rfl rfl, fun U hU hW => ⟨rfl, by rw [hU], by rw [hU]; exact hPc, va_K.moved hW.alike hKc, hDc.weaken (fun _ _ _ _ => trivial)⟩⟩ rfl rfl hl.1 rfl (lv_room (Nat.le_of_ble_eq_true rfl)) dX13_scanMethod_51 ⟨Nat.le_of_ble_eq_true rfl, Nat.le_of_ble_eq_true rfl⟩) hS (fun q _ h => hFc q h) hFc ?_
      clear hS
      intro r_10 u t H1 locs ht hvm hw hB hz1 hk1 hS
      obtain ⟨z_4, rfl⟩ : ∃ z, z = u := ⟨_, rfl⟩
      obtain ⟨hP1, hK1, hD1⟩ := hB
      rw [ht] at hP1
      have hK1 := va_K.moved hvm.symm hK1
      try dsimp only at hw
      have hPD := va_join (wr := [(qf110, .inl (cf110, 96, .inl g110_29)), (qf111, .inl (cf111, 96, .inl g111_29))]) (w1 := [(h0, .inr (13, z_4)), (qf103, .inl (cf103, 8, .inl f103)), (qf102, .inl (cf102, 2048, .inl f102)), (qf112, .inl (cf112, 6000, .inl f112))]) hP hD [5, 1, 2, 0] [3, 4] rfl rfl (by decide) (by decide) hk1 hFc hP1 hD1
      clear hP hD
      obtain ⟨hP, hD⟩ := hPD
      replace hK := (hK.sub (tys' := [(cf110, .int), (cf111, .int)]) [3, 4] rfl).app hK1
      clear hPc hDc hKc hFc hP1 hK1 hD1 hz1 hk1 ht hvm
      generalize H1 = H at hP hS ⊢
      replace hP : va_P (dC, dI) vwCl [(qf110, .inl (cf110, 96, .inl g110_29)), (qf111, .inl (cf111, 96, .inl g111_29)), (h0, .inr (13, z_4)), (qf103, .inl (cf103, 8, .inl f103)), (qf102, .inl (cf102, 2048, .inl f102)), (qf112, .inl (cf112, 6000, .inl f112))] H := hP
      replace hD : va_D A [(qf110, .inl (cf110, 96, .inl g110_29)), (qf111, .inl (cf111, 96, .inl g111_29)), (h0, .inr (13, z_4)), (qf103, .inl (cf103, 8, .inl f103)), (qf102, .inl (cf102, 2048, .inl f102)), (qf112, .inl (cf112, 6000, .inl f112))] := hD
      replace hK : va_K (dC, dI) vwCl [(cf110, .int), (cf111, .int), (cf103, .int), (cf102, .int), (cf112, .int)] s := hK
      obtain ⟨hwa_4, hln_4, hre_4⟩ := hw
      have hfk_4_102 : z_4[102]? = some (.ref qf102) := (hre_4 102 ).trans (hfk_3_102)
      have hfk_4_103 : z_4[103]? = some (.ref qf103) := (hre_4 103 ).trans (hfk_3_103)
      have hfk_4_110 : z_4[110]? = some (.ref qf110) := (hre_4 110 ).trans (hfk_3_110)
      have hfk_4_111 : z_4[111]? = some (.ref qf111) := (hre_4 111 ).trans (hfk_3_111)
      have hfk_4_112 : z_4[112]? = some (.ref qf112) := (hre_4 112 ).trans (hfk_3_112)
      have hfk_4_113 : z_4[113]? = some (.int v113) := (hre_4 113 ).trans (hfk_3_113)
      have hfk_4_114 : z_4[114]? = some (.int u3_1) := (hre_4 114 ).trans (hch_3_114)
      have hfk_4_115 : z_4[115]? = some (.int v115) := (hre_4 115 ).trans (hfk_3_115)
      have hrq_4 : ∀ j : Nat, j ≠ 114 → z_4[j]? = zs[j]? := fun j g114 => (hre_4 j ).trans (hrq_3 j g114)
      obtain ⟨rfl, hz_4⟩ := hwa_4
      rcases hz_4 with rfl | rfl
      · rw [if_pos rfl] at hsp
        refine lv_if_ne (tgt := 65) hx hb dX13_scanMethod_54 (by decide) (fun c_11 => (show False by revert c_11; decide).elim) (fun c_11 => ?_)
        refine lv_aload_n hx hb dX13_scanMethod_57 rfl (lv_at hl 0 rfl) ?_
        refine lv_iload hx hb dX13_scanMethod_58 (lv_at hl 3 rfl) ?_
        refine lv_iconst (v := 1) hx hb dX13_scanMethod_60 (by decide) ?_
        refine lv_iadd hx hb dX13_scanMethod_61 ?_
        obtain ⟨u5_0, hu_5, hsp⟩ := ox_bind hsp
        try dsimp only at hsp
        have hPc := hP.sub (ws' := [(h0, .inr (13, z_4))]) [2] rfl
        have hDc := hD.sub (ws' := [(h0, .inr (13, z_4))]) [2] (by decide) rfl
        have hKc := hK.sub (tys' := []) [] rfl
        have hFc := va_free (wc := [(h0, .inr (13, z_4))]) hD hS hA [2] rfl
        refine va_callv (va_runV (As := [.int (l4_29 + 1)]) (rest := []) ⟨hx, hb, hml, hown, hts⟩ (tm_unfit l dC dI H.size h0 z_4 ((l4_29 + 1)) u3_1 nf u5_0 hln_4 hfk_4_114 hu_5) (cwV 1 hts gv_h9_48 rfl rfl rfl (by decide +kernel) ⟨Nat.le_of_ble_eq_true rfl, Nat.le_of_ble_eq_true rfl⟩) ⟨fun a U g mk q => by obtain ⟨q0, q1, qP, qK, qD⟩ := q; exact ⟨q0, q1, qP, va_K.moved (u := U) (U := U.calling g mk a) (Vm.Alike.refl U.vm) qK, qD⟩, va_recv hKc hPc (ci := 13) (q0 := 0) rfl rfl, fun U hU hW => ⟨rfl, by rw [hU], by rw [hU]; exact hPc, va_K.moved hW.alike hKc, hDc.weaken (fun _ _ _ _ => trivial)⟩⟩ rfl rfl hl.1 rfl (lv_room (Nat.le_of_ble_eq_true rfl)) dX13_scanMethod_62 ⟨Nat.le_of_ble_eq_true rfl, Nat.le_of_ble_eq_true rfl⟩) hS (fun q _ h => hFc q h) hFc ?_
        clear hS
        intro u t H1 locs ht hvm hw hB hz1 hk1 hS
        obtain ⟨z_5, rfl⟩ : ∃ z, z = u := ⟨_, rfl⟩
        obtain ⟨hP1, hK1, hD1⟩ := hB
        rw [ht] at hP1
        have hK1 := va_K.moved hvm.symm hK1
        try dsimp only at hw
        have hPD := va_join (wr := [(qf110, .inl (cf110, 96, .inl g110_29)), (qf111, .inl (cf111, 96, .inl g111_29)), (qf103, .inl (cf103, 8, .inl f103)), (qf102, .inl (cf102, 2048, .inl f102)), (qf112, .inl (cf112, 6000, .inl f112))]) (w1 := [(h0, .inr (13, z_5))]) hP hD [2] [0, 1, 3, 4, 5] rfl rfl (by decide) (by decide) hk1 hFc hP1 hD1
        clear hP hD
        obtain ⟨hP, hD⟩ := hPD
        replace hK := (hK.sub (tys' := [(cf110, .int), (cf111, .int), (cf103, .int), (cf102, .int), (cf112, .int)]) [0, 1, 2, 3, 4] rfl).app hK1
        clear hPc hDc hKc hFc hP1 hK1 hD1 hz1 hk1 ht hvm
        generalize H1 = H at hP hS ⊢
        replace hP : va_P (dC, dI) vwCl [(qf110, .inl (cf110, 96, .inl g110_29)), (qf111, .inl (cf111, 96, .inl g111_29)), (qf103, .inl (cf103, 8, .inl f103)), (qf102, .inl (cf102, 2048, .inl f102)), (qf112, .inl (cf112, 6000, .inl f112)), (h0, .inr (13, z_5))] H := hP
        replace hD : va_D A [(qf110, .inl (cf110, 96, .inl g110_29)), (qf111, .inl (cf111, 96, .inl g111_29)), (qf103, .inl (cf103, 8, .inl f103)), (qf102, .inl (cf102, 2048, .inl f102)), (qf112, .inl (cf112, 6000, .inl f112)), (h0, .inr (13, z_5))] := hD
        replace hK : va_K (dC, dI) vwCl [(cf110, .int), (cf111, .int), (cf103, .int), (cf102, .int), (cf112, .int)] s := hK
        obtain ⟨hwa_5, hln_5, hre_5, hch_5_114⟩ := hw
        have hfk_5_102 : z_5[102]? = some (.ref qf102) := (hre_5 102 (by decide)).trans (hfk_4_102)
        have hfk_5_103 : z_5[103]? = some (.ref qf103) := (hre_5 103 (by decide)).trans (hfk_4_103)
        have hfk_5_110 : z_5[110]? = some (.ref qf110) := (hre_5 110 (by decide)).trans (hfk_4_110)
        have hfk_5_111 : z_5[111]? = some (.ref qf111) := (hre_5 111 (by decide)).trans (hfk_4_111)
        have hfk_5_112 : z_5[112]? = some (.ref qf112) := (hre_5 112 (by decide)).trans (hfk_4_112)
        have hfk_5_113 : z_5[113]? = some (.int v113) := (hre_5 113 (by decide)).trans (hfk_4_113)
        have hfk_5_115 : z_5[115]? = some (.int v115) := (hre_5 115 (by decide)).trans (hfk_4_115)
        have hrq_5 : ∀ j : Nat, j ≠ 114 → z_5[j]? = zs[j]? := fun j g114 => (hre_5 j g114).trans (hrq_4 j g114)
        exact hj_65 (H, locs, ls, z_5, l1_29, l2_29, l4_29, g110_29, g111_29, u5_0) ⟨lv_sub hl [0, 1, 2, 3] rfl, hS, hD.sub (ws' := [(h0, .inr (13, z_5)), (qf112, .inl (cf112, 6000, .inl f112)), (qf103, .inl (cf103, 8, .inl f103)), (qf102, .inl (cf102, 2048, .inl f102)), (qf110, .inl (cf110, 96, .inl g110_29)), (qf111, .inl (cf111, 96, .inl g111_29))]) [5, 4, 2, 3, 0, 1] (by decide) rfl, hP.sub (ws' := [(h0, .inr (13, z_5)), (qf112, .inl (cf112, 6000, .inl f112)), (qf103, .inl (cf103, 8, .inl f103)), (qf102, .inl (cf102, 2048, .inl f102)), (qf110, .inl (cf110, 96, .inl g110_29)), (qf111, .inl (cf111, 96, .inl g111_29))]) [5, 4, 2, 3, 0, 1] rfl, hfk_5_102, hfk_5_103, hfk_5_110, hfk_5_111, hfk_5_112, hfk_5_113, hch_5_114, hfk_5_115, hln_5, hrq_5, hsp⟩
      · rw [if_neg (by decide)] at hsp
        refine lv_if_ne (tgt := 65) hx hb dX13_scanMethod_54 (by decide) (fun c_12 => ?_) (fun c_12 => (show False by revert c_12; decide).elim)
        exact hj_65 (H, locs, ls, z_4, l1_29, l2_29, l4_29, g110_29, g111_29, u3_1) ⟨lv_sub hl [0, 1, 2, 3] rfl, hS, hD.sub (ws' := [(h0, .inr (13, z_4)), (qf112, .inl (cf112, 6000, .inl f112)), (qf103, .inl (cf103, 8, .inl f103)), (qf102, .inl (cf102, 2048, .inl f102)), (qf110, .inl (cf110, 96, .inl g110_29)), (qf111, .inl (cf111, 96, .inl g111_29))]) [2, 5, 3, 4, 0, 1] (by decide) rfl, hP.sub (ws' := [(h0, .inr (13, z_4)), (qf112, .inl (cf112, 6000, .inl f112)), (qf103, .inl (cf103, 8, .inl f103)), (qf102, .inl (cf102, 2048, .inl f102)), (qf110, .inl (cf110, 96, .inl g110_29)), (qf111, .inl (cf111, 96, .inl g111_29))]) [2, 5, 3, 4, 0, 1] rfl, hfk_4_102, hfk_4_103, hfk_4_110, hfk_4_111, hfk_4_112, hfk_4_113, hfk_4_114, hfk_4_115, hln_4, hrq_4, hsp⟩
  intro hj_29
  refine lv_iload_n hx hb dX13_scanMethod_0 rfl (lv_at hl 3 rfl) ?_
  refine lv_istore (lv' := [(4, .int a3), (0, .ref h0), (1, .int a1), (2, .int a2), (3, .int a3)]) hx hb dX13_scanMethod_1 hl (by decide) rfl (fun ls hl => ?_)
  refine lv_aload_n hx hb dX13_scanMethod_3 rfl (lv_at hl 1 rfl) ?_
  refine lv_iload hx hb dX13_scanMethod_4 (lv_at hl 0 rfl) ?_
  obtain ⟨⟨u1_0, u1_1⟩, hu_1, hsp⟩ := ox_bind hsp
  try dsimp only at hsp
  have hPc := hP.sub (ws' := [(h0, .inr (13, zs))]) [0] rfl
  have hDc := hD.sub (ws' := [(h0, .inr (13, zs))]) [0] (by decide) rfl
  have hKc := hK.sub (tys' := []) [] rfl
  have hFc := va_free (wc := [(h0, .inr (13, zs))]) hD hS hA [0] rfl
  refine va_calli (va_runV (As := [.int a3]) (rest := []) ⟨hx, hb, hml, hown, hts⟩ (tm_isByte l dC dI H.size h0 zs a3 v113 v114 nf u1_0 u1_1 hlen hf113 hf114 hu_1) (cwV 1 hts gv_h9_47 rfl rfl rfl (by decide +kernel) ⟨Nat.le_of_ble_eq_true rfl, Nat.le_of_ble_eq_true rfl⟩) ⟨fun a U g mk q => by obtain ⟨q0, q1, qP, qK, qD⟩ := q; exact ⟨q0, q1, qP, va_K.moved (u := U) (U := U.calling g mk a) (Vm.Alike.refl U.vm) qK, qD⟩, va_recv hKc hPc (ci := 13) (q0 := 0) rfl rfl, fun U hU hW => ⟨rfl, by rw [hU], by rw [hU]; exact hPc, va_K.moved hW.alike hKc, hDc.weaken (fun _ _ _ _ => trivial)⟩⟩ rfl rfl hl.1 rfl (lv_room (Nat.le_of_ble_eq_true rfl)) dX13_scanMethod_6 ⟨Nat.le_of_ble_eq_true rfl, Nat.le_of_ble_eq_true rfl⟩) hS (fun q _ h => hFc q h) hFc ?_
  clear hS
  intro r_1 u t H1 locs ht hvm hw hB hz1 hk1 hS
  obtain ⟨z_1, rfl⟩ : ∃ z, z = u := ⟨_, rfl⟩
  obtain ⟨hP1, hK1, hD1⟩ := hB
  rw [ht] at hP1
  have hK1 := va_K.moved hvm.symm hK1
  try dsimp only at hw
  have hPD := va_join (wr := [(qf112, .inl (cf112, 6000, .inl f112)), (qf103, .inl (cf103, 8, .inl f103)), (qf102, .inl (cf102, 2048, .inl f102)), (qf110, .inl (cf110, 96, .inl f110)), (qf111, .inl (cf111, 96, .inl f111))]) (w1 := [(h0, .inr (13, z_1))]) hP hD [0] [1, 2, 3, 4, 5] rfl rfl (by decide) (by decide) hk1 hFc hP1 hD1
  clear hP hD
  obtain ⟨hP, hD⟩ := hPD
  replace hK := (hK.sub (tys' := [(cf112, .int), (cf103, .int), (cf102, .int), (cf110, .int), (cf111, .int)]) [0, 1, 2, 3, 4] rfl).app hK1
  clear hPc hDc hKc hFc hP1 hK1 hD1 hz1 hk1 ht hvm
  generalize H1 = H at hP hS ⊢
  replace hP : va_P (dC, dI) vwCl [(qf112, .inl (cf112, 6000, .inl f112)), (qf103, .inl (cf103, 8, .inl f103)), (qf102, .inl (cf102, 2048, .inl f102)), (qf110, .inl (cf110, 96, .inl f110)), (qf111, .inl (cf111, 96, .inl f111)), (h0, .inr (13, z_1))] H := hP
  replace hD : va_D A [(qf112, .inl (cf112, 6000, .inl f112)), (qf103, .inl (cf103, 8, .inl f103)), (qf102, .inl (cf102, 2048, .inl f102)), (qf110, .inl (cf110, 96, .inl f110)), (qf111, .inl (cf111, 96, .inl f111)), (h0, .inr (13, z_1))] := hD
  replace hK : va_K (dC, dI) vwCl [(cf112, .int), (cf103, .int), (cf102, .int), (cf110, .int), (cf111, .int)] s := hK
  obtain ⟨hwa_1, hln_1, hre_1, hch_1_114⟩ := hw
  have hfk_1_102 : z_1[102]? = some (.ref qf102) := (hre_1 102 (by decide)).trans (hf102)
  have hfk_1_103 : z_1[103]? = some (.ref qf103) := (hre_1 103 (by decide)).trans (hf103)
  have hfk_1_110 : z_1[110]? = some (.ref qf110) := (hre_1 110 (by decide)).trans (hf110)
  have hfk_1_111 : z_1[111]? = some (.ref qf111) := (hre_1 111 (by decide)).trans (hf111)
  have hfk_1_112 : z_1[112]? = some (.ref qf112) := (hre_1 112 (by decide)).trans (hf112)
  have hfk_1_113 : z_1[113]? = some (.int v113) := (hre_1 113 (by decide)).trans (hf113)
  have hfk_1_115 : z_1[115]? = some (.int v115) := (hre_1 115 (by decide)).trans (hf115)
  have hrq_1 : ∀ j : Nat, j ≠ 114 → z_1[j]? = zs[j]? := fun j g114 => (hre_1 j g114).trans (hrs0 j g114)
  obtain ⟨rfl, hz_1⟩ := hwa_1
  rcases hz_1 with rfl | rfl
  · rw [if_pos rfl] at hsp
    refine lv_if_eq (tgt := 29) hx hb dX13_scanMethod_9 (by decide) (fun c_2 => ?_) (fun c_2 => (show False by revert c_2; decide).elim)
    exact hj_29 (H, locs, ls, z_1, a1, a2, a3, f110, f111, u1_1) ⟨lv_sub hl [1, 2, 3, 0] rfl, hS, hD.sub (ws' := [(h0, .inr (13, z_1)), (qf112, .inl (cf112, 6000, .inl f112)), (qf103, .inl (cf103, 8, .inl f103)), (qf102, .inl (cf102, 2048, .inl f102)), (qf110, .inl (cf110, 96, .inl f110)), (qf111, .inl (cf111, 96, .inl f111))]) [5, 0, 1, 2, 3, 4] (by decide) rfl, hP.sub (ws' := [(h0, .inr (13, z_1)), (qf112, .inl (cf112, 6000, .inl f112)), (qf103, .inl (cf103, 8, .inl f103)), (qf102, .inl (cf102, 2048, .inl f102)), (qf110, .inl (cf110, 96, .inl f110)), (qf111, .inl (cf111, 96, .inl f111))]) [5, 0, 1, 2, 3, 4] rfl, hfk_1_102, hfk_1_103, hfk_1_110, hfk_1_111, hfk_1_112, hfk_1_113, hch_1_114, hfk_1_115, hln_1, hrq_1, hsp⟩
  · rw [if_neg (by decide)] at hsp
    refine lv_if_eq (tgt := 29) hx hb dX13_scanMethod_9 (by decide) (fun c_3 => (show False by revert c_3; decide).elim) (fun c_3 => ?_)
    refine lv_aload_n hx hb dX13_scanMethod_12 rfl (lv_at hl 1 rfl) ?_
    refine va_get (D := (dC, dI)) (ci := 13) (v := .ref qf112) (C := RX13) (T := TX13) (N := 155) hx hb hts uV_h9_X13 hown hK hP 5 rfl rfl 112 (by decide) (hts (.fieldLink RX13 245 "ClassMillModel" "look" "[I") mw_h9_242) (fun _ h9 => h9) hfk_1_112 dX13_scanMethod_13 ?_
    refine lv_iload hx hb dX13_scanMethod_16 (lv_at hl 0 rfl) ?_
    obtain ⟨hi_4, hsp⟩ := ox_in hsp
    refine va_iald hx hb hK hP 0 0 rfl rfl (i := a3) hi_4 dX13_scanMethod_18 ?_
    refine lv_iconst (v := 1) hx hb dX13_scanMethod_19 (by decide) ?_
    refine lv_icmp_le (tgt := 29) hx hb dX13_scanMethod_20 (by decide) (fun c_5 => ?_) (fun c_5 => ?_)
    · rw [if_pos c_5] at hsp
      exact hj_29 (H, locs, ls, z_1, a1, a2, a3, f110, f111, u1_1) ⟨lv_sub hl [1, 2, 3, 0] rfl, hS, hD.sub (ws' := [(h0, .inr (13, z_1)), (qf112, .inl (cf112, 6000, .inl f112)), (qf103, .inl (cf103, 8, .inl f103)), (qf102, .inl (cf102, 2048, .inl f102)), (qf110, .inl (cf110, 96, .inl f110)), (qf111, .inl (cf111, 96, .inl f111))]) [5, 0, 1, 2, 3, 4] (by decide) rfl, hP.sub (ws' := [(h0, .inr (13, z_1)), (qf112, .inl (cf112, 6000, .inl f112)), (qf103, .inl (cf103, 8, .inl f103)), (qf102, .inl (cf102, 2048, .inl f102)), (qf110, .inl (cf110, 96, .inl f110)), (qf111, .inl (cf111, 96, .inl f111))]) [5, 0, 1, 2, 3, 4] rfl, hfk_1_102, hfk_1_103, hfk_1_110, hfk_1_111, hfk_1_112, hfk_1_113, hch_1_114, hfk_1_115, hln_1, hrq_1, hsp⟩
    · rw [if_neg c_5] at hsp
      refine lv_aload_n hx hb dX13_scanMethod_23 rfl (lv_at hl 1 rfl) ?_
      refine lv_iload hx hb dX13_scanMethod_24 (lv_at hl 0 rfl) ?_
      obtain ⟨u2_0, hu_2, hsp⟩ := ox_bind hsp
      try dsimp only at hsp
      have hPc := hP.sub (ws' := [(h0, .inr (13, z_1))]) [5] rfl
      have hDc := hD.sub (ws' := [(h0, .inr (13, z_1))]) [5] (by decide) rfl
      have hKc := hK.sub (tys' := []) [] rfl
      have hFc := va_free (wc := [(h0, .inr (13, z_1))]) hD hS hA [5] rfl
      refine va_callv (va_runV (As := [.int a3]) (rest := []) ⟨hx, hb, hml, hown, hts⟩ (tm_unfit l dC dI H.size h0 z_1 a3 u1_1 nf u2_0 hln_1 hch_1_114 hu_2) (cwV 1 hts gv_h9_48 rfl rfl rfl (by decide +kernel) ⟨Nat.le_of_ble_eq_true rfl, Nat.le_of_ble_eq_true rfl⟩) ⟨fun a U g mk q => by obtain ⟨q0, q1, qP, qK, qD⟩ := q; exact ⟨q0, q1, qP, va_K.moved (u := U) (U := U.calling g mk a) (Vm.Alike.refl U.vm) qK, qD⟩, va_recv hKc hPc (ci := 13) (q0 := 0) rfl rfl, fun U hU hW => ⟨rfl, by rw [hU], by rw [hU]; exact hPc, va_K.moved hW.alike hKc, hDc.weaken (fun _ _ _ _ => trivial)⟩⟩ rfl rfl hl.1 rfl (lv_room (Nat.le_of_ble_eq_true rfl)) dX13_scanMethod_26 ⟨Nat.le_of_ble_eq_true rfl, Nat.le_of_ble_eq_true rfl⟩) hS (fun q _ h => hFc q h) hFc ?_
      clear hS
      intro u t H1 locs ht hvm hw hB hz1 hk1 hS
      obtain ⟨z_2, rfl⟩ : ∃ z, z = u := ⟨_, rfl⟩
      obtain ⟨hP1, hK1, hD1⟩ := hB
      rw [ht] at hP1
      have hK1 := va_K.moved hvm.symm hK1
      try dsimp only at hw
      have hPD := va_join (wr := [(qf112, .inl (cf112, 6000, .inl f112)), (qf103, .inl (cf103, 8, .inl f103)), (qf102, .inl (cf102, 2048, .inl f102)), (qf110, .inl (cf110, 96, .inl f110)), (qf111, .inl (cf111, 96, .inl f111))]) (w1 := [(h0, .inr (13, z_2))]) hP hD [5] [0, 1, 2, 3, 4] rfl rfl (by decide) (by decide) hk1 hFc hP1 hD1
      clear hP hD
      obtain ⟨hP, hD⟩ := hPD
      replace hK := (hK.sub (tys' := [(cf112, .int), (cf103, .int), (cf102, .int), (cf110, .int), (cf111, .int)]) [0, 1, 2, 3, 4] rfl).app hK1
      clear hPc hDc hKc hFc hP1 hK1 hD1 hz1 hk1 ht hvm
      generalize H1 = H at hP hS ⊢
      replace hP : va_P (dC, dI) vwCl [(qf112, .inl (cf112, 6000, .inl f112)), (qf103, .inl (cf103, 8, .inl f103)), (qf102, .inl (cf102, 2048, .inl f102)), (qf110, .inl (cf110, 96, .inl f110)), (qf111, .inl (cf111, 96, .inl f111)), (h0, .inr (13, z_2))] H := hP
      replace hD : va_D A [(qf112, .inl (cf112, 6000, .inl f112)), (qf103, .inl (cf103, 8, .inl f103)), (qf102, .inl (cf102, 2048, .inl f102)), (qf110, .inl (cf110, 96, .inl f110)), (qf111, .inl (cf111, 96, .inl f111)), (h0, .inr (13, z_2))] := hD
      replace hK : va_K (dC, dI) vwCl [(cf112, .int), (cf103, .int), (cf102, .int), (cf110, .int), (cf111, .int)] s := hK
      obtain ⟨hwa_2, hln_2, hre_2, hch_2_114⟩ := hw
      have hfk_2_102 : z_2[102]? = some (.ref qf102) := (hre_2 102 (by decide)).trans (hfk_1_102)
      have hfk_2_103 : z_2[103]? = some (.ref qf103) := (hre_2 103 (by decide)).trans (hfk_1_103)
      have hfk_2_110 : z_2[110]? = some (.ref qf110) := (hre_2 110 (by decide)).trans (hfk_1_110)
      have hfk_2_111 : z_2[111]? = some (.ref qf111) := (hre_2 111 (by decide)).trans (hfk_1_111)
      have hfk_2_112 : z_2[112]? = some (.ref qf112) := (hre_2 112 (by decide)).trans (hfk_1_112)
      have hfk_2_113 : z_2[113]? = some (.int v113) := (hre_2 113 (by decide)).trans (hfk_1_113)
      have hfk_2_115 : z_2[115]? = some (.int v115) := (hre_2 115 (by decide)).trans (hfk_1_115)
      have hrq_2 : ∀ j : Nat, j ≠ 114 → z_2[j]? = zs[j]? := fun j g114 => (hre_2 j g114).trans (hrq_1 j g114)
      exact hj_29 (H, locs, ls, z_2, a1, a2, a3, f110, f111, u2_0) ⟨lv_sub hl [1, 2, 3, 0] rfl, hS, hD.sub (ws' := [(h0, .inr (13, z_2)), (qf112, .inl (cf112, 6000, .inl f112)), (qf103, .inl (cf103, 8, .inl f103)), (qf102, .inl (cf102, 2048, .inl f102)), (qf110, .inl (cf110, 96, .inl f110)), (qf111, .inl (cf111, 96, .inl f111))]) [5, 0, 1, 2, 3, 4] (by decide) rfl, hP.sub (ws' := [(h0, .inr (13, z_2)), (qf112, .inl (cf112, 6000, .inl f112)), (qf103, .inl (cf103, 8, .inl f103)), (qf102, .inl (cf102, 2048, .inl f102)), (qf110, .inl (cf110, 96, .inl f110)), (qf111, .inl (cf111, 96, .inl f111))]) [5, 0, 1, 2, 3, 4] rfl, hfk_2_102, hfk_2_103, hfk_2_110, hfk_2_111, hfk_2_112, hfk_2_113, hch_2_114, hfk_2_115, hln_2, hrq_2, hsp⟩
def jn_vm_scan_379 (nf : Nat) (a1 : Int32) (v113 : Int32) (f103 : Nat → Int32) (f112 : Nat → Int32) (f102 : Nat → Int32) (f104 : Nat → Int32) (f105 : Nat → Int32) (f106 : Nat → Int32) (f107 : Nat → Int32) (f108 : Nat → Int32) (f109 : Nat → Int32) (f110 : Nat → Int32) (f111 : Nat → Int32)  (l3_379 : Int32) (g102_379 : Nat → Int32) (g103_379 : Nat → Int32) (g104_379 : Nat → Int32) (g105_379 : Nat → Int32) (g106_379 : Nat → Int32) (g107_379 : Nat → Int32) (g108_379 : Nat → Int32) (g109_379 : Nat → Int32) (g110_379 : Nat → Int32) (g111_379 : Nat → Int32) (x114_379 : Int32) (x115_379 : Int32) : Option ((Nat → Int32) × (Nat → Int32) × (Nat → Int32) × (Nat → Int32) × (Nat → Int32) × (Nat → Int32) × (Nat → Int32) × (Nat → Int32) × (Nat → Int32) × (Nat → Int32) × Int32 × Int32) := (if x114_379 = (-1) then (if v113 ≤ l3_379 then (some (g102_379, g103_379, g104_379, g105_379, g106_379, g107_379, g108_379, g109_379, g110_379, g111_379, x114_379, x115_379)) else ((sp_tm_unfit nf l3_379 x114_379).bind (fun p1 => (some (g102_379, g103_379, g104_379, g105_379, g106_379, g107_379, g108_379, g109_379, g110_379, g111_379, p1, x115_379))))) else (some (g102_379, g103_379, g104_379, g105_379, g106_379, g107_379, g108_379, g109_379, g110_379, g111_379, x114_379, x115_379)))
def lp_vm_scan_332 (nf n : Nat) (a1 : Int32) (v113 : Int32) (f103 : Nat → Int32) (f112 : Nat → Int32) (f102 : Nat → Int32) (f104 : Nat → Int32) (f105 : Nat → Int32) (f106 : Nat → Int32) (f107 : Nat → Int32) (f108 : Nat → Int32) (f109 : Nat → Int32) (f110 : Nat → Int32) (f111 : Nat → Int32)  (l1_332 : Int32) (l3_332 : Int32) (l4_332 : Int32) (g102_332 : Nat → Int32) (g103_332 : Nat → Int32) (g104_332 : Nat → Int32) (g105_332 : Nat → Int32) (g106_332 : Nat → Int32) (g107_332 : Nat → Int32) (g108_332 : Nat → Int32) (g109_332 : Nat → Int32) (g110_332 : Nat → Int32) (g111_332 : Nat → Int32) (x114_332 : Int32) (x115_332 : Int32) : Option ((Nat → Int32) × (Nat → Int32) × (Nat → Int32) × (Nat → Int32) × (Nat → Int32) × (Nat → Int32) × (Nat → Int32) × (Nat → Int32) × (Nat → Int32) × (Nat → Int32) × Int32 × Int32) := match n with
  | 0 => none
  | n + 1 => (if x114_332 = (-1) then (if l1_332 < 0 then none else if 8 ≤ (l1_332 : Int32).toNatClampNeg then none else (if (g108_332 (l1_332 : Int32).toNatClampNeg) ≤ l4_332 then (jn_vm_scan_379 nf a1 v113 f103 f112 f102 f104 f105 f106 f107 f108 f109 f110 f111  l3_332 g102_332 g103_332 g104_332 g105_332 g106_332 g107_332 g108_332 g109_332 g110_332 g111_332 x114_332 x115_332) else (if ((12 * l1_332) + l4_332) < 0 then none else if 96 ≤ (((12 * l1_332) + l4_332) : Int32).toNatClampNeg then none else ((sp_vm_scanMethod nf l1_332 l4_332 l3_332 v113 x114_332 x115_332 f112 g103_332 g102_332 g110_332 g111_332).bind (fun p1 => (lp_vm_scan_332 nf n a1 v113 f103 f112 f102 f104 f105 f106 f107 f108 f109 f110 f111 l1_332 p1.1 (l4_332 + 1) g102_332 g103_332 g104_332 g105_332 g106_332 g107_332 g108_332 (upd g109_332 (((12 * l1_332) + l4_332) : Int32).toNatClampNeg l3_332) p1.2.1 p1.2.2.1 p1.2.2.2 x115_332)))))) else (jn_vm_scan_379 nf a1 v113 f103 f112 f102 f104 f105 f106 f107 f108 f109 f110 f111  l3_332 g102_332 g103_332 g104_332 g105_332 g106_332 g107_332 g108_332 g109_332 g110_332 g111_332 x114_332 x115_332))
def jn_vm_scan_314 (nf : Nat) (a1 : Int32) (v113 : Int32) (f103 : Nat → Int32) (f112 : Nat → Int32) (f102 : Nat → Int32) (f104 : Nat → Int32) (f105 : Nat → Int32) (f106 : Nat → Int32) (f107 : Nat → Int32) (f108 : Nat → Int32) (f109 : Nat → Int32) (f110 : Nat → Int32) (f111 : Nat → Int32)  (l1_314 : Int32) (l3_314 : Int32) (g102_314 : Nat → Int32) (g103_314 : Nat → Int32) (g104_314 : Nat → Int32) (g105_314 : Nat → Int32) (g106_314 : Nat → Int32) (g107_314 : Nat → Int32) (g108_314 : Nat → Int32) (g109_314 : Nat → Int32) (g110_314 : Nat → Int32) (g111_314 : Nat → Int32) (x114_314 : Int32) (x115_314 : Int32) : Option ((Nat → Int32) × (Nat → Int32) × (Nat → Int32) × (Nat → Int32) × (Nat → Int32) × (Nat → Int32) × (Nat → Int32) × (Nat → Int32) × (Nat → Int32) × (Nat → Int32) × Int32 × Int32) := (if l3_314 < 0 then none else if 6000 ≤ (l3_314 : Int32).toNatClampNeg then none else (if l1_314 < 0 then none else if 8 ≤ (l1_314 : Int32).toNatClampNeg then none else (lp_vm_scan_332 nf nf a1 v113 f103 f112 f102 f104 f105 f106 f107 f108 f109 f110 f111  l1_314 (l3_314 + 1) 0 g102_314 g103_314 g104_314 g105_314 g106_314 g107_314 (upd g108_314 (l1_314 : Int32).toNatClampNeg (f112 (l3_314 : Int32).toNatClampNeg)) g109_314 g110_314 g111_314 x114_314 x115_314)))
def jn_vm_scan_243 (nf : Nat) (a1 : Int32) (v113 : Int32) (f103 : Nat → Int32) (f112 : Nat → Int32) (f102 : Nat → Int32) (f104 : Nat → Int32) (f105 : Nat → Int32) (f106 : Nat → Int32) (f107 : Nat → Int32) (f108 : Nat → Int32) (f109 : Nat → Int32) (f110 : Nat → Int32) (f111 : Nat → Int32)  (l1_243 : Int32) (l3_243 : Int32) (g102_243 : Nat → Int32) (g103_243 : Nat → Int32) (g104_243 : Nat → Int32) (g105_243 : Nat → Int32) (g106_243 : Nat → Int32) (g107_243 : Nat → Int32) (g108_243 : Nat → Int32) (g109_243 : Nat → Int32) (g110_243 : Nat → Int32) (g111_243 : Nat → Int32) (x114_243 : Int32) (x115_243 : Int32) : Option ((Nat → Int32) × (Nat → Int32) × (Nat → Int32) × (Nat → Int32) × (Nat → Int32) × (Nat → Int32) × (Nat → Int32) × (Nat → Int32) × (Nat → Int32) × (Nat → Int32) × Int32 × Int32) := ((sp_tm_isByte nf (l3_243 + 2) v113 x114_243).bind (fun p1 => (if p1.1 = 0 then (some (g102_243, g103_243, g104_243, g105_243, g106_243, g107_243, g108_243, g109_243, g110_243, g111_243, p1.2, x115_243)) else (if l3_243 < 0 then none else if 6000 ≤ (l3_243 : Int32).toNatClampNeg then none else (if l1_243 < 0 then none else if 8 ≤ (l1_243 : Int32).toNatClampNeg then none else (if (l3_243 + 1) < 0 then none else if 6000 ≤ ((l3_243 + 1) : Int32).toNatClampNeg then none else (if l1_243 < 0 then none else if 8 ≤ (l1_243 : Int32).toNatClampNeg then none else ((sp_vm_scanFields nf l1_243 (l3_243 + 2) v113 p1.2 x115_243 f112 g106_243 g107_243 g103_243 g102_243).bind (fun p2 => ((sp_tm_isByte nf p2.1 v113 p2.2.2.2).bind (fun p3 => (if p3.1 = 0 then (some (g102_243, g103_243, (upd g104_243 (l1_243 : Int32).toNatClampNeg (f112 (l3_243 : Int32).toNatClampNeg)), (upd g105_243 (l1_243 : Int32).toNatClampNeg (f112 ((l3_243 + 1) : Int32).toNatClampNeg)), p2.2.1, p2.2.2.1, g108_243, g109_243, g110_243, g111_243, p3.2, x115_243)) else (if p2.1 < 0 then none else if 6000 ≤ (p2.1 : Int32).toNatClampNeg then none else (if (f112 (p2.1 : Int32).toNatClampNeg) ≤ 12 then (jn_vm_scan_314 nf a1 v113 f103 f112 f102 f104 f105 f106 f107 f108 f109 f110 f111  l1_243 p2.1 g102_243 g103_243 (upd g104_243 (l1_243 : Int32).toNatClampNeg (f112 (l3_243 : Int32).toNatClampNeg)) (upd g105_243 (l1_243 : Int32).toNatClampNeg (f112 ((l3_243 + 1) : Int32).toNatClampNeg)) p2.2.1 p2.2.2.1 g108_243 g109_243 g110_243 g111_243 p3.2 x115_243) else ((sp_tm_unfit nf p2.1 p3.2).bind (fun p4 => (jn_vm_scan_314 nf a1 v113 f103 f112 f102 f104 f105 f106 f107 f108 f109 f110 f111  l1_243 p2.1 g102_243 g103_243 (upd g104_243 (l1_243 : Int32).toNatClampNeg (f112 (l3_243 : Int32).toNatClampNeg)) (upd g105_243 (l1_243 : Int32).toNatClampNeg (f112 ((l3_243 + 1) : Int32).toNatClampNeg)) p2.2.1 p2.2.2.1 g108_243 g109_243 g110_243 g111_243 p4 x115_243)))))))))))))))))
def jn_vm_scan_210 (nf : Nat) (a1 : Int32) (v113 : Int32) (f103 : Nat → Int32) (f112 : Nat → Int32) (f102 : Nat → Int32) (f104 : Nat → Int32) (f105 : Nat → Int32) (f106 : Nat → Int32) (f107 : Nat → Int32) (f108 : Nat → Int32) (f109 : Nat → Int32) (f110 : Nat → Int32) (f111 : Nat → Int32)  (l1_210 : Int32) (l3_210 : Int32) (g102_210 : Nat → Int32) (g103_210 : Nat → Int32) (g104_210 : Nat → Int32) (g105_210 : Nat → Int32) (g106_210 : Nat → Int32) (g107_210 : Nat → Int32) (g108_210 : Nat → Int32) (g109_210 : Nat → Int32) (g110_210 : Nat → Int32) (g111_210 : Nat → Int32) (x114_210 : Int32) (x115_210 : Int32) : Option ((Nat → Int32) × (Nat → Int32) × (Nat → Int32) × (Nat → Int32) × (Nat → Int32) × (Nat → Int32) × (Nat → Int32) × (Nat → Int32) × (Nat → Int32) × (Nat → Int32) × Int32 × Int32) := ((sp_tm_isByte nf (l3_210 + 1) v113 x114_210).bind (fun p1 => (if p1.1 = 0 then (jn_vm_scan_243 nf a1 v113 f103 f112 f102 f104 f105 f106 f107 f108 f109 f110 f111  l1_210 l3_210 g102_210 g103_210 g104_210 g105_210 g106_210 g107_210 g108_210 g109_210 g110_210 g111_210 p1.2 x115_210) else (if (l3_210 + 1) < 0 then none else if 6000 ≤ ((l3_210 + 1) : Int32).toNatClampNeg then none else ((sp_tn_isClassConstant nf (f112 ((l3_210 + 1) : Int32).toNatClampNeg) 0 x115_210 g103_210 g102_210 f112).bind (fun p2 => (if p2 = 0 then ((sp_tm_unfit nf (l3_210 + 1) p1.2).bind (fun p3 => (jn_vm_scan_243 nf a1 v113 f103 f112 f102 f104 f105 f106 f107 f108 f109 f110 f111  l1_210 l3_210 g102_210 g103_210 g104_210 g105_210 g106_210 g107_210 g108_210 g109_210 g110_210 g111_210 p3 x115_210))) else (jn_vm_scan_243 nf a1 v113 f103 f112 f102 f104 f105 f106 f107 f108 f109 f110 f111  l1_210 l3_210 g102_210 g103_210 g104_210 g105_210 g106_210 g107_210 g108_210 g109_210 g110_210 g111_210 p1.2 x115_210))))))))
def jn_vm_scan_183 (nf : Nat) (a1 : Int32) (v113 : Int32) (f103 : Nat → Int32) (f112 : Nat → Int32) (f102 : Nat → Int32) (f104 : Nat → Int32) (f105 : Nat → Int32) (f106 : Nat → Int32) (f107 : Nat → Int32) (f108 : Nat → Int32) (f109 : Nat → Int32) (f110 : Nat → Int32) (f111 : Nat → Int32)  (l1_183 : Int32) (l3_183 : Int32) (g102_183 : Nat → Int32) (g103_183 : Nat → Int32) (g104_183 : Nat → Int32) (g105_183 : Nat → Int32) (g106_183 : Nat → Int32) (g107_183 : Nat → Int32) (g108_183 : Nat → Int32) (g109_183 : Nat → Int32) (g110_183 : Nat → Int32) (g111_183 : Nat → Int32) (x114_183 : Int32) (x115_183 : Int32) : Option ((Nat → Int32) × (Nat → Int32) × (Nat → Int32) × (Nat → Int32) × (Nat → Int32) × (Nat → Int32) × (Nat → Int32) × (Nat → Int32) × (Nat → Int32) × (Nat → Int32) × Int32 × Int32) := ((sp_tm_isByte nf l3_183 v113 x114_183).bind (fun p1 => (if p1.1 = 0 then (jn_vm_scan_210 nf a1 v113 f103 f112 f102 f104 f105 f106 f107 f108 f109 f110 f111  l1_183 l3_183 g102_183 g103_183 g104_183 g105_183 g106_183 g107_183 g108_183 g109_183 g110_183 g111_183 p1.2 x115_183) else (if l3_183 < 0 then none else if 6000 ≤ (l3_183 : Int32).toNatClampNeg then none else ((sp_tn_isClassConstant nf (f112 (l3_183 : Int32).toNatClampNeg) 0 x115_183 g103_183 g102_183 f112).bind (fun p2 => (if p2 = 0 then ((sp_tm_unfit nf l3_183 p1.2).bind (fun p3 => (jn_vm_scan_210 nf a1 v113 f103 f112 f102 f104 f105 f106 f107 f108 f109 f110 f111  l1_183 l3_183 g102_183 g103_183 g104_183 g105_183 g106_183 g107_183 g108_183 g109_183 g110_183 g111_183 p3 x115_183))) else (jn_vm_scan_210 nf a1 v113 f103 f112 f102 f104 f105 f106 f107 f108 f109 f110 f111  l1_183 l3_183 g102_183 g103_183 g104_183 g105_183 g106_183 g107_183 g108_183 g109_183 g110_183 g111_183 p1.2 x115_183))))))))
def lp_vm_scan_146 (nf n : Nat) (a1 : Int32) (v113 : Int32) (f103 : Nat → Int32) (f112 : Nat → Int32) (f102 : Nat → Int32) (f104 : Nat → Int32) (f105 : Nat → Int32) (f106 : Nat → Int32) (f107 : Nat → Int32) (f108 : Nat → Int32) (f109 : Nat → Int32) (f110 : Nat → Int32) (f111 : Nat → Int32)  (l1_146 : Int32) (l2_146 : Int32) (l3_146 : Int32) (l4_146 : Int32) (g102_146 : Nat → Int32) (g103_146 : Nat → Int32) (g104_146 : Nat → Int32) (g105_146 : Nat → Int32) (g106_146 : Nat → Int32) (g107_146 : Nat → Int32) (g108_146 : Nat → Int32) (g109_146 : Nat → Int32) (g110_146 : Nat → Int32) (g111_146 : Nat → Int32) (x114_146 : Int32) (x115_146 : Int32) : Option ((Nat → Int32) × (Nat → Int32) × (Nat → Int32) × (Nat → Int32) × (Nat → Int32) × (Nat → Int32) × (Nat → Int32) × (Nat → Int32) × (Nat → Int32) × (Nat → Int32) × Int32 × Int32) := match n with
  | 0 => none
  | n + 1 => (if l2_146 < l4_146 then (jn_vm_scan_183 nf a1 v113 f103 f112 f102 f104 f105 f106 f107 f108 f109 f110 f111  l1_146 l3_146 g102_146 g103_146 g104_146 g105_146 g106_146 g107_146 g108_146 g109_146 g110_146 g111_146 x114_146 x115_146) else (if x114_146 = (-1) then (if ((256 * l1_146) + l4_146) < 0 then none else if 2048 ≤ (((256 * l1_146) + l4_146) : Int32).toNatClampNeg then none else ((sp_vm_checkConstant nf (g102_146 (((256 * l1_146) + l4_146) : Int32).toNatClampNeg) x114_146 x115_146 f112 g103_146 g102_146).bind (fun p1 => (lp_vm_scan_146 nf n a1 v113 f103 f112 f102 f104 f105 f106 f107 f108 f109 f110 f111 l1_146 l2_146 l3_146 (l4_146 + 1) g102_146 g103_146 g104_146 g105_146 g106_146 g107_146 g108_146 g109_146 g110_146 g111_146 p1 x115_146)))) else (jn_vm_scan_183 nf a1 v113 f103 f112 f102 f104 f105 f106 f107 f108 f109 f110 f111  l1_146 l3_146 g102_146 g103_146 g104_146 g105_146 g106_146 g107_146 g108_146 g109_146 g110_146 g111_146 x114_146 x115_146)))
def jn_vm_scan_143 (nf : Nat) (a1 : Int32) (v113 : Int32) (f103 : Nat → Int32) (f112 : Nat → Int32) (f102 : Nat → Int32) (f104 : Nat → Int32) (f105 : Nat → Int32) (f106 : Nat → Int32) (f107 : Nat → Int32) (f108 : Nat → Int32) (f109 : Nat → Int32) (f110 : Nat → Int32) (f111 : Nat → Int32)  (l1_143 : Int32) (l2_143 : Int32) (l3_143 : Int32) (g102_143 : Nat → Int32) (g103_143 : Nat → Int32) (g104_143 : Nat → Int32) (g105_143 : Nat → Int32) (g106_143 : Nat → Int32) (g107_143 : Nat → Int32) (g108_143 : Nat → Int32) (g109_143 : Nat → Int32) (g110_143 : Nat → Int32) (g111_143 : Nat → Int32) (x114_143 : Int32) (x115_143 : Int32) : Option ((Nat → Int32) × (Nat → Int32) × (Nat → Int32) × (Nat → Int32) × (Nat → Int32) × (Nat → Int32) × (Nat → Int32) × (Nat → Int32) × (Nat → Int32) × (Nat → Int32) × Int32 × Int32) := (lp_vm_scan_146 nf nf a1 v113 f103 f112 f102 f104 f105 f106 f107 f108 f109 f110 f111  l1_143 l2_143 l3_143 1 g102_143 g103_143 g104_143 g105_143 g106_143 g107_143 g108_143 g109_143 g110_143 g111_143 x114_143 x115_143)
def lp_vm_scan_86 (nf n : Nat) (a1 : Int32) (v113 : Int32) (f103 : Nat → Int32) (f112 : Nat → Int32) (f102 : Nat → Int32) (f104 : Nat → Int32) (f105 : Nat → Int32) (f106 : Nat → Int32) (f107 : Nat → Int32) (f108 : Nat → Int32) (f109 : Nat → Int32) (f110 : Nat → Int32) (f111 : Nat → Int32)  (l1_86 : Int32) (l2_86 : Int32) (l3_86 : Int32) (l4_86 : Int32) (g102_86 : Nat → Int32) (g103_86 : Nat → Int32) (g104_86 : Nat → Int32) (g105_86 : Nat → Int32) (g106_86 : Nat → Int32) (g107_86 : Nat → Int32) (g108_86 : Nat → Int32) (g109_86 : Nat → Int32) (g110_86 : Nat → Int32) (g111_86 : Nat → Int32) (x114_86 : Int32) (x115_86 : Int32) : Option ((Nat → Int32) × (Nat → Int32) × (Nat → Int32) × (Nat → Int32) × (Nat → Int32) × (Nat → Int32) × (Nat → Int32) × (Nat → Int32) × (Nat → Int32) × (Nat → Int32) × Int32 × Int32) := match n with
  | 0 => none
  | n + 1 => (if l2_86 < l4_86 then (jn_vm_scan_143 nf a1 v113 f103 f112 f102 f104 f105 f106 f107 f108 f109 f110 f111  l1_86 l2_86 l3_86 g102_86 g103_86 g104_86 g105_86 g106_86 g107_86 g108_86 g109_86 g110_86 g111_86 x114_86 x115_86) else (if x114_86 = (-1) then ((sp_tm_isByte nf l3_86 v113 x114_86).bind (fun p1 => (if p1.1 = 0 then (some (g102_86, g103_86, g104_86, g105_86, g106_86, g107_86, g108_86, g109_86, g110_86, g111_86, p1.2, x115_86)) else (if ((256 * l1_86) + l4_86) < 0 then none else if 2048 ≤ (((256 * l1_86) + l4_86) : Int32).toNatClampNeg then none else (if l1_86 < 0 then none else if 8 ≤ (l1_86 : Int32).toNatClampNeg then none else ((sp_vm_scanConstant nf l3_86 v113 p1.2 f112).bind (fun p2 => (lp_vm_scan_86 nf n a1 v113 f103 f112 f102 f104 f105 f106 f107 f108 f109 f110 f111 l1_86 l2_86 p2.1 (l4_86 + 1) (upd g102_86 (((256 * l1_86) + l4_86) : Int32).toNatClampNeg l3_86) (upd g103_86 (l1_86 : Int32).toNatClampNeg l4_86) g104_86 g105_86 g106_86 g107_86 g108_86 g109_86 g110_86 g111_86 p2.2 x115_86)))))))) else (jn_vm_scan_143 nf a1 v113 f103 f112 f102 f104 f105 f106 f107 f108 f109 f110 f111  l1_86 l2_86 l3_86 g102_86 g103_86 g104_86 g105_86 g106_86 g107_86 g108_86 g109_86 g110_86 g111_86 x114_86 x115_86)))
def jn_vm_scan_65 (nf : Nat) (a1 : Int32) (v113 : Int32) (f103 : Nat → Int32) (f112 : Nat → Int32) (f102 : Nat → Int32) (f104 : Nat → Int32) (f105 : Nat → Int32) (f106 : Nat → Int32) (f107 : Nat → Int32) (f108 : Nat → Int32) (f109 : Nat → Int32) (f110 : Nat → Int32) (f111 : Nat → Int32)  (l1_65 : Int32) (g102_65 : Nat → Int32) (g103_65 : Nat → Int32) (g104_65 : Nat → Int32) (g105_65 : Nat → Int32) (g106_65 : Nat → Int32) (g107_65 : Nat → Int32) (g108_65 : Nat → Int32) (g109_65 : Nat → Int32) (g110_65 : Nat → Int32) (g111_65 : Nat → Int32) (x114_65 : Int32) (x115_65 : Int32) : Option ((Nat → Int32) × (Nat → Int32) × (Nat → Int32) × (Nat → Int32) × (Nat → Int32) × (Nat → Int32) × (Nat → Int32) × (Nat → Int32) × (Nat → Int32) × (Nat → Int32) × Int32 × Int32) := ((sp_tm_isByte nf 2 v113 x114_65).bind (fun p1 => (if p1.1 = 0 then (some (g102_65, g103_65, g104_65, g105_65, g106_65, g107_65, g108_65, g109_65, g110_65, g111_65, p1.2, x115_65)) else (lp_vm_scan_86 nf nf a1 v113 f103 f112 f102 f104 f105 f106 f107 f108 f109 f110 f111  l1_65 (f112 (2 : Int32).toNatClampNeg) 3 1 g102_65 g103_65 g104_65 g105_65 g106_65 g107_65 g108_65 g109_65 g110_65 g111_65 p1.2 x115_65))))
def jn_vm_scan_41 (nf : Nat) (a1 : Int32) (v113 : Int32) (f103 : Nat → Int32) (f112 : Nat → Int32) (f102 : Nat → Int32) (f104 : Nat → Int32) (f105 : Nat → Int32) (f106 : Nat → Int32) (f107 : Nat → Int32) (f108 : Nat → Int32) (f109 : Nat → Int32) (f110 : Nat → Int32) (f111 : Nat → Int32)  (l1_41 : Int32) (g102_41 : Nat → Int32) (g103_41 : Nat → Int32) (g104_41 : Nat → Int32) (g105_41 : Nat → Int32) (g106_41 : Nat → Int32) (g107_41 : Nat → Int32) (g108_41 : Nat → Int32) (g109_41 : Nat → Int32) (g110_41 : Nat → Int32) (g111_41 : Nat → Int32) (x114_41 : Int32) (x115_41 : Int32) : Option ((Nat → Int32) × (Nat → Int32) × (Nat → Int32) × (Nat → Int32) × (Nat → Int32) × (Nat → Int32) × (Nat → Int32) × (Nat → Int32) × (Nat → Int32) × (Nat → Int32) × Int32 × Int32) := ((sp_tm_isByte nf 1 v113 x114_41).bind (fun p1 => (if p1.1 = 0 then (jn_vm_scan_65 nf a1 v113 f103 f112 f102 f104 f105 f106 f107 f108 f109 f110 f111  l1_41 g102_41 g103_41 g104_41 g105_41 g106_41 g107_41 g108_41 g109_41 g110_41 g111_41 p1.2 x115_41) else (if (f112 (1 : Int32).toNatClampNeg) = 77 then (jn_vm_scan_65 nf a1 v113 f103 f112 f102 f104 f105 f106 f107 f108 f109 f110 f111  l1_41 g102_41 g103_41 g104_41 g105_41 g106_41 g107_41 g108_41 g109_41 g110_41 g111_41 p1.2 x115_41) else ((sp_tm_unfit nf 1 p1.2).bind (fun p2 => (jn_vm_scan_65 nf a1 v113 f103 f112 f102 f104 f105 f106 f107 f108 f109 f110 f111  l1_41 g102_41 g103_41 g104_41 g105_41 g106_41 g107_41 g108_41 g109_41 g110_41 g111_41 p2 x115_41)))))))
def sp_vm_scan (nf : Nat) (a1 : Int32) (v113 : Int32) (f103 : Nat → Int32) (f112 : Nat → Int32) (f102 : Nat → Int32) (f104 : Nat → Int32) (f105 : Nat → Int32) (f106 : Nat → Int32) (f107 : Nat → Int32) (f108 : Nat → Int32) (f109 : Nat → Int32) (f110 : Nat → Int32) (f111 : Nat → Int32) : Option ((Nat → Int32) × (Nat → Int32) × (Nat → Int32) × (Nat → Int32) × (Nat → Int32) × (Nat → Int32) × (Nat → Int32) × (Nat → Int32) × (Nat → Int32) × (Nat → Int32) × Int32 × Int32) := (if a1 < 0 then none else if 8 ≤ (a1 : Int32).toNatClampNeg then none else ((sp_tm_isByte nf 0 v113 (-1)).bind (fun p1 => (if p1.1 = 0 then (jn_vm_scan_41 nf a1 v113 f103 f112 f102 f104 f105 f106 f107 f108 f109 f110 f111  a1 f102 (upd f103 (a1 : Int32).toNatClampNeg 0) f104 f105 f106 f107 f108 f109 f110 f111 p1.2 a1) else (if (f112 (0 : Int32).toNatClampNeg) = 74 then (jn_vm_scan_41 nf a1 v113 f103 f112 f102 f104 f105 f106 f107 f108 f109 f110 f111  a1 f102 (upd f103 (a1 : Int32).toNatClampNeg 0) f104 f105 f106 f107 f108 f109 f110 f111 p1.2 a1) else ((sp_tm_unfit nf 0 p1.2).bind (fun p2 => (jn_vm_scan_41 nf a1 v113 f103 f112 f102 f104 f105 f106 f107 f108 f109 f110 f111  a1 f102 (upd f103 (a1 : Int32).toNatClampNeg 0) f104 f105 f106 f107 f108 f109 f110 f111 p2 a1))))))))
