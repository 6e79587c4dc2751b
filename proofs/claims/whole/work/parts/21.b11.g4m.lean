set_option maxHeartbeats 4000000 in
set_option maxRecDepth 100000 in
/-- ClassMillModel.scanConstant -/
theorem vm_scanConstant (l : Launch) (dC : Nat → ClassId) (dI : Nat → Nat → Nat) (sz : Nat) (h0 : Nat) (zs : (List Value)) (a1 : Int32) (qf112 : Nat) (v113 : Int32) (v114 : Int32) (cf112 : ClassId) (f112 : (Nat → Int32)) (nf : Nat) (r0 : Int32) (w114 : Int32) (hlen : zs.length = 155) (hf112 : zs[112]? = some (.ref qf112)) (hf113 : zs[113]? = some (.int v113)) (hf114 : zs[114]? = some (.int v114)) (hsp : sp_vm_scanConstant nf a1 v113 v114 f112 = some (r0, w114)) : Met l yX13_scanConstant (.code yX13_scanConstant cX13_scanConstant 4 (some .int) :: VS_h9) ({ frames := 1, cells := 0, slots := 0, locals := 21 }) (va_Pc [.ref h0, .int a1] (fun U => U.heap.size = sz ∧ va_P (dC, dI) vwCl [(h0, .inr (13, zs)), (qf112, .inl (cf112, 6000, .inl f112))] U.heap ∧ va_K (dC, dI) vwCl [(cf112, .int)] U ∧ va_D (fun _ => True) [(h0, .inr (13, zs)), (qf112, .inl (cf112, 6000, .inl f112))])) (va_Qi (fun (r : Int32) (u : (List Value)) => match u with | (zo1) => r0 = r ∧ zo1.length = 155 ∧ (∀ j : Nat, j ≠ 114 → zo1[j]? = zs[j]?) ∧ zo1[114]? = some (.int w114)) (fun (u : (List Value)) (t : State) => match u with | (zo1) => va_P (dC, dI) vwCl [(h0, .inr (13, zo1)), (qf112, .inl (cf112, 6000, .inl f112))] t.heap ∧ va_K (dC, dI) vwCl [(cf112, .int)] t ∧ va_D (va_A [(h0, .inr (13, zs)), (qf112, .inl (cf112, 6000, .inl f112))] sz) [(h0, .inr (13, zo1)), (qf112, .inl (cf112, 6000, .inl f112))]) (va_A [(h0, .inr (13, zs)), (qf112, .inl (cf112, 6000, .inl f112))] sz)) 0 0 (va_A [(h0, .inr (13, zs)), (qf112, .inl (cf112, 6000, .inl f112))] sz) := by
  refine Met.ofW (cc := cX13_scanConstant) (maxL := 4) (ret := (some .int)) (by decide) rfl ?_
  intro p e s m args below meth c s₁ B hml hv
  obtain ⟨rfl, hsz, hP, hK, hD0⟩ := hv
  have hx := B.exec
  have hb := B.bytes
  have hr := B.returns
  have hts := atoms_spec (ws := (.code yX13_scanConstant cX13_scanConstant 4 (some .int) :: VS_h9)) B.pre
  replace hts := fun w (h : w ∈ VS_h9) => hts w (List.mem_cons_of_mem _ h)
  have hown : s.vm.findClass RX13 = some m.cls := findClass_of_methodNamed B.named
  have hlocks := B.notSynchronized
  subst hsz
  have hD := hD0.self (sz := s.heap.size)
  generalize hAe : va_A [(h0, .inr (13, zs)), (qf112, .inl (cf112, 6000, .inl f112))] s.heap.size = A at hD  ⊢
  have hA : ∀ q : Nat, s.heap.size ≤ q → A q := fun q h => by rw [← hAe]; exact Or.inr h
  have hP : va_P (dC, dI) vwCl [(h0, .inr (13, zs)), (qf112, .inl (cf112, 6000, .inl f112))] s.heap := hP
  have hl := lv_entry ([.ref h0, .int a1]) (n := 4) (Nat.le_of_ble_eq_true rfl)
  rw [lg_entry_eq]
  generalize (lg_sl ([.ref h0, .int a1]) ++ List.replicate (4 - (lg_sl ([.ref h0, .int a1])).length) Slot.unset).toArray = ls at hl ⊢
  have hl : lv_has ls 4 [(0, .ref h0), (1, .int a1)] := hl
  obtain ⟨H, hH⟩ : ∃ H : Heap, s.heap = H := ⟨_, rfl⟩
  rw [hH] at hP ⊢
  have hS : va_S A s.heap H [] := by rw [← hH]; exact va_S.rf
  obtain ⟨locs, hlo⟩ : ∃ locs : List Loc, locs = [] := ⟨_, rfl⟩
  rw [← hlo] at hS ⊢
  have hrs0 : ∀ j : Nat, j ≠ 114 → zs[j]? = zs[j]? := fun _ _  => rfl
  unfold sp_vm_scanConstant at hsp
  refine jn_use (α := Heap × List Loc × Array Slot × List Value × Int32 × Int32 × Int32) (fun x9 => x9.1) (fun x9 => x9.2.1) (fun x9 => F0 m 75 x9.2.2.1 []) (fun x9 => match x9 with | (H, locs, ls, z75, l1_75, l2_75, x114_75) => lv_has ls 4 [(0, .ref h0), (1, .int l1_75), (2, .int l2_75)] ∧ va_S A s.heap H locs ∧ va_D A [(h0, .inr (13, z75)), (qf112, .inl (cf112, 6000, .inl f112))] ∧ va_P (dC, dI) vwCl [(h0, .inr (13, z75)), (qf112, .inl (cf112, 6000, .inl f112))] H ∧ z75[112]? = some (.ref qf112) ∧ z75[113]? = some (.int v113) ∧ z75[114]? = some (.int x114_75) ∧ z75.length = 155 ∧ (∀ j : Nat, j ≠ 114 → z75[j]? = zs[j]?) ∧ jn_vm_scanConstant_75 nf a1 v113 v114 f112 l1_75 l2_75 x114_75 = some (r0, w114)) ?_ ?_
  · intro x9 hJ9
    obtain ⟨H, locs, ls, z75, l1_75, l2_75, x114_75⟩ := x9
    obtain ⟨hl, hS, hD, hP, hfh_75_112, hfh_75_113, hfh_75_114, hlh_75, hrh_75, hsp⟩ := hJ9
    replace hl : lv_has ls 4 [(0, .ref h0), (1, .int l1_75), (2, .int l2_75)] := hl
    replace hS : va_S A s.heap H locs := hS
    replace hD : va_D A [(h0, .inr (13, z75)), (qf112, .inl (cf112, 6000, .inl f112))] := hD
    replace hP : va_P (dC, dI) vwCl [(h0, .inr (13, z75)), (qf112, .inl (cf112, 6000, .inl f112))] H := hP
    replace hsp : jn_vm_scanConstant_75 nf a1 v113 v114 f112 l1_75 l2_75 x114_75 = some (r0, w114) := hsp
    show W _ _ _ _ _ _ _ _ _ _ H locs _ _ _ (F0 m 75 ls [])
    unfold jn_vm_scanConstant_75 at hsp
    try dsimp only at hsp
    refine lv_iconst (v := 0) hx hb dX13_scanConstant_75 (by decide) ?_
    refine lv_istore_n (lv' := [(3, .int 0), (0, .ref h0), (1, .int l1_75), (2, .int l2_75)]) hx hb dX13_scanConstant_76 rfl hl (by decide) rfl (fun ls hl => ?_)
    replace hl : lv_has ls 4 [(3, .int 0), (0, .ref h0), (1, .int l1_75), (2, .int l2_75)] := lv_sub hl [0, 1, 2, 3] rfl
    replace hP := hP.sub (ws' := [(h0, .inr (13, z75)), (qf112, .inl (cf112, 6000, .inl f112))]) [0, 1] rfl
    replace hD := hD.sub (ws' := [(h0, .inr (13, z75)), (qf112, .inl (cf112, 6000, .inl f112))]) [0, 1] (by decide) rfl
    replace hK := hK.sub (tys' := [(cf112, .int)]) [0] rfl
    obtain ⟨n_77, hn_77⟩ : ∃ z : Nat, z = nf := ⟨_, rfl⟩
    obtain ⟨l1_77, el1_77⟩ : ∃ z : Int32, z = l1_75 := ⟨_, rfl⟩
    obtain ⟨l2_77, el2_77⟩ : ∃ z : Int32, z = l2_75 := ⟨_, rfl⟩
    obtain ⟨l3_77, el3_77⟩ : ∃ z : Int32, z = 0 := ⟨_, rfl⟩
    obtain ⟨x114_77, ex114_77⟩ : ∃ z : Int32, z = x114_75 := ⟨_, rfl⟩
    replace hsp : lp_vm_scanConstant_77 nf n_77 a1 v113 v114 f112 l1_77 l2_77 l3_77 x114_77 = some (r0, w114) := by rw [hn_77, el1_77, el2_77, el3_77, ex114_77]; exact hsp
    replace hl : lv_has ls 4 [(3, .int l3_77), (0, .ref h0), (1, .int l1_77), (2, .int l2_77)] := by rw [el1_77, el2_77, el3_77]; exact hl
    obtain ⟨z77, ez77⟩ : ∃ z : List Value, z = z75 := ⟨_, rfl⟩
    have hfh_77_112 : z77[112]? = some (.ref qf112) := by rw [ez77]; exact hfh_75_112
    have hfh_77_113 : z77[113]? = some (.int v113) := by rw [ez77]; exact hfh_75_113
    have hfh_77_114 : z77[114]? = some (.int x114_77) := by rw [ez77, ex114_77]; exact hfh_75_114
    have hlh_77 : z77.length = 155 := by rw [ez77]; exact hlh_75
    have hrh_77 : ∀ j : Nat, j ≠ 114 → z77[j]? = zs[j]? := by rw [ez77]; exact hrh_75
    replace hP : va_P (dC, dI) vwCl [(h0, .inr (13, z77)), (qf112, .inl (cf112, 6000, .inl f112))] H := by rw [ez77]; exact hP
    replace hD : va_D A [(h0, .inr (13, z77)), (qf112, .inl (cf112, 6000, .inl f112))] := by rw [ez77]; exact hD
    clear hn_77 ez77 el1_77 el2_77 el3_77 ex114_77
    try clear hlo
    try clear hH
    revert hsp
    revert hP
    revert hD
    revert hS
    revert hl
    revert hrh_77
    revert hlh_77
    revert hfh_77_114
    revert hfh_77_113
    revert hfh_77_112
    revert x114_77
    revert l3_77
    revert l2_77
    revert l1_77
    revert z77
    revert ls
    revert locs
    revert H
    induction n_77 with
    | zero => intro H locs ls z77 l1_77 l2_77 l3_77 x114_77 hfh_77_112 hfh_77_113 hfh_77_114 hlh_77 hrh_77 hl hS hD hP hsp; unfold lp_vm_scanConstant_77 at hsp; cases hsp
    | succ n_77 ih_77 =>
      intro H locs ls z77 l1_77 l2_77 l3_77 x114_77 hfh_77_112 hfh_77_113 hfh_77_114 hlh_77 hrh_77 hl hS hD hP hsp
      unfold lp_vm_scanConstant_77 at hsp
      try dsimp only at hsp
      refine jn_use (α := Heap × List Loc × Array Slot × List Value × Int32 × Int32 × Int32 × Int32) (fun x9 => x9.1) (fun x9 => x9.2.1) (fun x9 => F0 m 132 x9.2.2.1 []) (fun x9 => match x9 with | (H, locs, ls, z132, l1_132, l2_132, l3_132, x114_132) => lv_has ls 4 [(0, .ref h0), (1, .int l1_132), (2, .int l2_132), (3, .int l3_132)] ∧ va_S A s.heap H locs ∧ va_D A [(h0, .inr (13, z132)), (qf112, .inl (cf112, 6000, .inl f112))] ∧ va_P (dC, dI) vwCl [(h0, .inr (13, z132)), (qf112, .inl (cf112, 6000, .inl f112))] H ∧ z132[112]? = some (.ref qf112) ∧ z132[113]? = some (.int v113) ∧ z132[114]? = some (.int x114_132) ∧ z132.length = 155 ∧ (∀ j : Nat, j ≠ 114 → z132[j]? = zs[j]?) ∧ jn_vm_scanConstant_132 nf a1 v113 v114 f112 (lp_vm_scanConstant_77 nf n_77 a1 v113 v114 f112) l1_132 l2_132 l3_132 x114_132 = some (r0, w114)) ?_ ?_
      · intro x9 hJ9
        obtain ⟨H, locs, ls, z132, l1_132, l2_132, l3_132, x114_132⟩ := x9
        obtain ⟨hl, hS, hD, hP, hfh_132_112, hfh_132_113, hfh_132_114, hlh_132, hrh_132, hsp⟩ := hJ9
        replace hl : lv_has ls 4 [(0, .ref h0), (1, .int l1_132), (2, .int l2_132), (3, .int l3_132)] := hl
        replace hS : va_S A s.heap H locs := hS
        replace hD : va_D A [(h0, .inr (13, z132)), (qf112, .inl (cf112, 6000, .inl f112))] := hD
        replace hP : va_P (dC, dI) vwCl [(h0, .inr (13, z132)), (qf112, .inl (cf112, 6000, .inl f112))] H := hP
        replace hsp : jn_vm_scanConstant_132 nf a1 v113 v114 f112 (lp_vm_scanConstant_77 nf n_77 a1 v113 v114 f112) l1_132 l2_132 l3_132 x114_132 = some (r0, w114) := hsp
        show W _ _ _ _ _ _ _ _ _ _ H locs _ _ _ (F0 m 132 ls [])
        unfold jn_vm_scanConstant_132 at hsp
        try dsimp only at hsp
        refine lv_aload_n hx hb dX13_scanConstant_132 rfl (lv_at hl 0 rfl) ?_
        refine lv_iload_n hx hb dX13_scanConstant_133 rfl (lv_at hl 1 rfl) ?_
        refine lv_iconst (v := 2) hx hb dX13_scanConstant_134 (by decide) ?_
        refine lv_iadd hx hb dX13_scanConstant_135 ?_
        refine lv_iload_n hx hb dX13_scanConstant_136 rfl (lv_at hl 3 rfl) ?_
        refine lv_iadd hx hb dX13_scanConstant_137 ?_
        obtain ⟨u8_0, hu_8, hsp⟩ := ox_bind hsp
        try dsimp only at hsp
        have hPc := hP.sub (ws' := [(h0, .inr (13, z132))]) [0] rfl
        have hDc := hD.sub (ws' := [(h0, .inr (13, z132))]) [0] (by decide) rfl
        have hKc := hK.sub (tys' := []) [] rfl
        have hFc := va_free (wc := [(h0, .inr (13, z132))]) hD hS hA [0] rfl
        refine va_callv (va_runV (As := [.int ((l1_132 + 2) + l3_132)]) (rest := []) ⟨hx, hb, hml, hown, hts⟩ (tm_unfit l dC dI H.size h0 z132 (((l1_132 + 2) + l3_132)) x114_132 nf u8_0 hlh_132 hfh_132_114 hu_8) (cwV 1 hts gv_h9_48 rfl rfl rfl (by decide +kernel) ⟨Nat.le_of_ble_eq_true rfl, Nat.le_of_ble_eq_true rfl⟩) ⟨fun a U g mk q => by obtain ⟨q0, q1, qP, qK, qD⟩ := q; exact ⟨q0, q1, qP, va_K.moved (u := U) (U := U.calling g mk a) (Vm.Alike.refl U.vm) qK, qD⟩, va_recv hKc hPc (ci := 13) (q0 := 0) rfl rfl, fun U hU hW => ⟨rfl, by rw [hU], by rw [hU]; exact hPc, va_K.moved hW.alike hKc, hDc.weaken (fun _ _ _ _ => trivial)⟩⟩ rfl rfl hl.1 rfl (lv_room (Nat.le_of_ble_eq_true rfl)) dX13_scanConstant_138 ⟨Nat.le_of_ble_eq_true rfl, Nat.le_of_ble_eq_true rfl⟩) hS (fun q _ h => hFc q h) hFc ?_
        clear hS
        intro u t H1 locs ht hvm hw hB hz1 hk1 hS
        obtain ⟨z_8, rfl⟩ : ∃ z, z = u := ⟨_, rfl⟩
        obtain ⟨hP1, hK1, hD1⟩ := hB
        rw [ht] at hP1
        have hK1 := va_K.moved hvm.symm hK1
        try dsimp only at hw
        have hPD := va_join (wr := [(qf112, .inl (cf112, 6000, .inl f112))]) (w1 := [(h0, .inr (13, z_8))]) hP hD [0] [1] rfl rfl (by decide) (by decide) hk1 hFc hP1 hD1
        clear hP hD
        obtain ⟨hP, hD⟩ := hPD
        replace hK := (hK.sub (tys' := [(cf112, .int)]) [0] rfl).app hK1
        clear hPc hDc hKc hFc hP1 hK1 hD1 hz1 hk1 ht hvm
        generalize H1 = H at hP hS ⊢
        replace hP : va_P (dC, dI) vwCl [(qf112, .inl (cf112, 6000, .inl f112)), (h0, .inr (13, z_8))] H := hP
        replace hD : va_D A [(qf112, .inl (cf112, 6000, .inl f112)), (h0, .inr (13, z_8))] := hD
        replace hK : va_K (dC, dI) vwCl [(cf112, .int)] s := hK
        obtain ⟨hwa_8, hln_8, hre_8, hch_8_114⟩ := hw
        have hfk_8_112 : z_8[112]? = some (.ref qf112) := (hre_8 112 (by decide)).trans (hfh_132_112)
        have hfk_8_113 : z_8[113]? = some (.int v113) := (hre_8 113 (by decide)).trans (hfh_132_113)
        have hrq_8 : ∀ j : Nat, j ≠ 114 → z_8[j]? = zs[j]? := fun j g114 => (hre_8 j g114).trans (hrh_132 j g114)
        refine lv_iinc (v := (l3_132 + 1)) (lv' := [(3, .int (l3_132 + 1)), (0, .ref h0), (1, .int l1_132), (2, .int l2_132)]) hx hb dX13_scanConstant_141 hl (k := 3) rfl rfl (by decide) rfl (fun ls hl => ?_)
        refine lv_goto (tgt := 77) hx hb dX13_scanConstant_144 (by decide) ?_
        exact ih_77 H locs ls z_8 l1_132 l2_132 (l3_132 + 1) u8_0 (hfk_8_112) (hfk_8_113) (hch_8_114) hln_8 hrq_8 (lv_sub hl [0, 1, 2, 3] rfl) hS (hD.sub (ws' := [(h0, .inr (13, z_8)), (qf112, .inl (cf112, 6000, .inl f112))]) [1, 0] (by decide) rfl) (hP.sub (ws' := [(h0, .inr (13, z_8)), (qf112, .inl (cf112, 6000, .inl f112))]) [1, 0] rfl) hsp
      intro hj_132
      refine lv_iload_n hx hb dX13_scanConstant_77 rfl (lv_at hl 0 rfl) ?_
      refine lv_iload_n hx hb dX13_scanConstant_78 rfl (lv_at hl 3 rfl) ?_
      refine lv_icmp_ge (tgt := 147) hx hb dX13_scanConstant_79 (by decide) (fun c_15 => ?_) (fun c_15 => ?_)
      · rw [if_pos c_15] at hsp
        refine lv_iload_n hx hb dX13_scanConstant_147 rfl (lv_at hl 2 rfl) ?_
        refine lv_iconst (v := 2) hx hb dX13_scanConstant_148 (by decide) ?_
        refine lv_iadd hx hb dX13_scanConstant_149 ?_
        refine lv_iload_n hx hb dX13_scanConstant_150 rfl (lv_at hl 3 rfl) ?_
        refine lv_iadd hx hb dX13_scanConstant_151 ?_
        have hr0 := Option.some.inj hsp
        clear hsp
        obtain ⟨hq0, hr1⟩ := Prod.mk.inj hr0
        clear hr0
        subst hq0
        subst hr1
        have hP9 := hP.sub (ws' := [(h0, .inr (13, z77)), (qf112, .inl (cf112, 6000, .inl f112))]) [0, 1] rfl
        have hD9 := hD.sub (ws' := [(h0, .inr (13, z77)), (qf112, .inl (cf112, 6000, .inl f112))]) [0, 1] (by decide) rfl
        have hK9 := hK.sub (tys' := [(cf112, .int)]) [0] rfl
        exact W.iret hx hb hr (fun t ht hW => ⟨⟨(((l1_77 + 2) + l2_77)), (z77), rfl, ⟨rfl, hlh_77, hrh_77, hfh_77_114⟩, by rw [ht]; exact hP9, va_K.moved hW.alike hK9, hD9⟩, hS.F ht⟩) hS.2.2 dX13_scanConstant_152
      · rw [if_neg c_15] at hsp
        refine lv_aload_n hx hb dX13_scanConstant_82 rfl (lv_at hl 1 rfl) ?_
        refine va_get (D := (dC, dI)) (ci := 13) (v := .int x114_77) (C := RX13) (T := TX13) (N := 155) hx hb hts uV_h9_X13 hown hK hP 0 rfl rfl 114 (by decide) (hts (.fieldLink RX13 764 "ClassMillModel" "form" "I") mw_h9_251) (fun _ h9 => h9) hfh_77_114 dX13_scanConstant_83 ?_
        refine lv_iconst (v := (-1)) hx hb dX13_scanConstant_86 (by decide) ?_
        refine lv_icmp_ne (tgt := 147) hx hb dX13_scanConstant_87 (by decide) (fun c_16 => ?_) (fun c_16 => ?_)
        · rw [if_neg c_16] at hsp
          refine lv_iload_n hx hb dX13_scanConstant_147 rfl (lv_at hl 2 rfl) ?_
          refine lv_iconst (v := 2) hx hb dX13_scanConstant_148 (by decide) ?_
          refine lv_iadd hx hb dX13_scanConstant_149 ?_
          refine lv_iload_n hx hb dX13_scanConstant_150 rfl (lv_at hl 3 rfl) ?_
          refine lv_iadd hx hb dX13_scanConstant_151 ?_
          have hr0 := Option.some.inj hsp
          clear hsp
          obtain ⟨hq0, hr1⟩ := Prod.mk.inj hr0
          clear hr0
          subst hq0
          subst hr1
          have hP9 := hP.sub (ws' := [(h0, .inr (13, z77)), (qf112, .inl (cf112, 6000, .inl f112))]) [0, 1] rfl
          have hD9 := hD.sub (ws' := [(h0, .inr (13, z77)), (qf112, .inl (cf112, 6000, .inl f112))]) [0, 1] (by decide) rfl
          have hK9 := hK.sub (tys' := [(cf112, .int)]) [0] rfl
          exact W.iret hx hb hr (fun t ht hW => ⟨⟨(((l1_77 + 2) + l2_77)), (z77), rfl, ⟨rfl, hlh_77, hrh_77, hfh_77_114⟩, by rw [ht]; exact hP9, va_K.moved hW.alike hK9, hD9⟩, hS.F ht⟩) hS.2.2 dX13_scanConstant_152
        · rw [if_pos c_16] at hsp
          refine lv_aload_n hx hb dX13_scanConstant_90 rfl (lv_at hl 1 rfl) ?_
          refine lv_iload_n hx hb dX13_scanConstant_91 rfl (lv_at hl 2 rfl) ?_
          refine lv_iconst (v := 2) hx hb dX13_scanConstant_92 (by decide) ?_
          refine lv_iadd hx hb dX13_scanConstant_93 ?_
          refine lv_iload_n hx hb dX13_scanConstant_94 rfl (lv_at hl 0 rfl) ?_
          refine lv_iadd hx hb dX13_scanConstant_95 ?_
          obtain ⟨⟨u7_0, u7_1⟩, hu_7, hsp⟩ := ox_bind hsp
          try dsimp only at hsp
          have hPc := hP.sub (ws' := [(h0, .inr (13, z77))]) [0] rfl
          have hDc := hD.sub (ws' := [(h0, .inr (13, z77))]) [0] (by decide) rfl
          have hKc := hK.sub (tys' := []) [] rfl
          have hFc := va_free (wc := [(h0, .inr (13, z77))]) hD hS hA [0] rfl
          refine va_calli (va_runV (As := [.int ((l1_77 + 2) + l3_77)]) (rest := []) ⟨hx, hb, hml, hown, hts⟩ (tm_isByte l dC dI H.size h0 z77 (((l1_77 + 2) + l3_77)) v113 x114_77 nf u7_0 u7_1 hlh_77 hfh_77_113 hfh_77_114 hu_7) (cwV 1 hts gv_h9_47 rfl rfl rfl (by decide +kernel) ⟨Nat.le_of_ble_eq_true rfl, Nat.le_of_ble_eq_true rfl⟩) ⟨fun a U g mk q => by obtain ⟨q0, q1, qP, qK, qD⟩ := q; exact ⟨q0, q1, qP, va_K.moved (u := U) (U := U.calling g mk a) (Vm.Alike.refl U.vm) qK, qD⟩, va_recv hKc hPc (ci := 13) (q0 := 0) rfl rfl, fun U hU hW => ⟨rfl, by rw [hU], by rw [hU]; exact hPc, va_K.moved hW.alike hKc, hDc.weaken (fun _ _ _ _ => trivial)⟩⟩ rfl rfl hl.1 rfl (lv_room (Nat.le_of_ble_eq_true rfl)) dX13_scanConstant_96 ⟨Nat.le_of_ble_eq_true rfl, Nat.le_of_ble_eq_true rfl⟩) hS (fun q _ h => hFc q h) hFc ?_
          clear hS
          intro r_17 u t H1 locs ht hvm hw hB hz1 hk1 hS
          obtain ⟨z_7, rfl⟩ : ∃ z, z = u := ⟨_, rfl⟩
          obtain ⟨hP1, hK1, hD1⟩ := hB
          rw [ht] at hP1
          have hK1 := va_K.moved hvm.symm hK1
          try dsimp only at hw
          have hPD := va_join (wr := [(qf112, .inl (cf112, 6000, .inl f112))]) (w1 := [(h0, .inr (13, z_7))]) hP hD [0] [1] rfl rfl (by decide) (by decide) hk1 hFc hP1 hD1
          clear hP hD
          obtain ⟨hP, hD⟩ := hPD
          replace hK := (hK.sub (tys' := [(cf112, .int)]) [0] rfl).app hK1
          clear hPc hDc hKc hFc hP1 hK1 hD1 hz1 hk1 ht hvm
          generalize H1 = H at hP hS ⊢
          replace hP : va_P (dC, dI) vwCl [(qf112, .inl (cf112, 6000, .inl f112)), (h0, .inr (13, z_7))] H := hP
          replace hD : va_D A [(qf112, .inl (cf112, 6000, .inl f112)), (h0, .inr (13, z_7))] := hD
          replace hK : va_K (dC, dI) vwCl [(cf112, .int)] s := hK
          obtain ⟨hwa_7, hln_7, hre_7, hch_7_114⟩ := hw
          have hfk_7_112 : z_7[112]? = some (.ref qf112) := (hre_7 112 (by decide)).trans (hfh_77_112)
          have hfk_7_113 : z_7[113]? = some (.int v113) := (hre_7 113 (by decide)).trans (hfh_77_113)
          have hrq_7 : ∀ j : Nat, j ≠ 114 → z_7[j]? = zs[j]? := fun j g114 => (hre_7 j g114).trans (hrh_77 j g114)
          obtain ⟨rfl, hz_7⟩ := hwa_7
          rcases hz_7 with rfl | rfl
          · rw [if_pos rfl] at hsp
            refine lv_if_eq (tgt := 141) hx hb dX13_scanConstant_99 (by decide) (fun c_18 => ?_) (fun c_18 => (show False by revert c_18; decide).elim)
            refine lv_iinc (v := (l3_77 + 1)) (lv' := [(3, .int (l3_77 + 1)), (0, .ref h0), (1, .int l1_77), (2, .int l2_77)]) hx hb dX13_scanConstant_141 hl (k := 0) rfl rfl (by decide) rfl (fun ls hl => ?_)
            refine lv_goto (tgt := 77) hx hb dX13_scanConstant_144 (by decide) ?_
            exact ih_77 H locs ls z_7 l1_77 l2_77 (l3_77 + 1) u7_1 (hfk_7_112) (hfk_7_113) (hch_7_114) hln_7 hrq_7 (lv_sub hl [0, 1, 2, 3] rfl) hS (hD.sub (ws' := [(h0, .inr (13, z_7)), (qf112, .inl (cf112, 6000, .inl f112))]) [1, 0] (by decide) rfl) (hP.sub (ws' := [(h0, .inr (13, z_7)), (qf112, .inl (cf112, 6000, .inl f112))]) [1, 0] rfl) hsp
          · rw [if_neg (by decide)] at hsp
            refine lv_if_eq (tgt := 141) hx hb dX13_scanConstant_99 (by decide) (fun c_19 => (show False by revert c_19; decide).elim) (fun c_19 => ?_)
            refine lv_aload_n hx hb dX13_scanConstant_102 rfl (lv_at hl 1 rfl) ?_
            refine va_get (D := (dC, dI)) (ci := 13) (v := .ref qf112) (C := RX13) (T := TX13) (N := 155) hx hb hts uV_h9_X13 hown hK hP 1 rfl rfl 112 (by decide) (hts (.fieldLink RX13 245 "ClassMillModel" "look" "[I") mw_h9_242) (fun _ h9 => h9) hfk_7_112 dX13_scanConstant_103 ?_
            refine lv_iload_n hx hb dX13_scanConstant_106 rfl (lv_at hl 2 rfl) ?_
            refine lv_iconst (v := 2) hx hb dX13_scanConstant_107 (by decide) ?_
            refine lv_iadd hx hb dX13_scanConstant_108 ?_
            refine lv_iload_n hx hb dX13_scanConstant_109 rfl (lv_at hl 0 rfl) ?_
            refine lv_iadd hx hb dX13_scanConstant_110 ?_
            obtain ⟨hi_20, hsp⟩ := ox_in hsp
            refine va_iald hx hb hK hP 0 0 rfl rfl (i := ((l1_77 + 2) + l3_77)) hi_20 dX13_scanConstant_111 ?_
            refine lv_bipush (v := 33) hx hb dX13_scanConstant_112 (by decide) ?_
            refine lv_icmp_lt (tgt := 132) hx hb dX13_scanConstant_114 (by decide) (fun c_21 => ?_) (fun c_21 => ?_)
            · rw [if_pos c_21] at hsp
              exact hj_132 (H, locs, ls, z_7, l1_77, l2_77, l3_77, u7_1) ⟨lv_sub hl [1, 2, 3, 0] rfl, hS, hD.sub (ws' := [(h0, .inr (13, z_7)), (qf112, .inl (cf112, 6000, .inl f112))]) [1, 0] (by decide) rfl, hP.sub (ws' := [(h0, .inr (13, z_7)), (qf112, .inl (cf112, 6000, .inl f112))]) [1, 0] rfl, hfk_7_112, hfk_7_113, hch_7_114, hln_7, hrq_7, hsp⟩
            · rw [if_neg c_21] at hsp
              refine lv_aload_n hx hb dX13_scanConstant_117 rfl (lv_at hl 1 rfl) ?_
              refine va_get (D := (dC, dI)) (ci := 13) (v := .ref qf112) (C := RX13) (T := TX13) (N := 155) hx hb hts uV_h9_X13 hown hK hP 1 rfl rfl 112 (by decide) (hts (.fieldLink RX13 245 "ClassMillModel" "look" "[I") mw_h9_242) (fun _ h9 => h9) hfk_7_112 dX13_scanConstant_118 ?_
              refine lv_iload_n hx hb dX13_scanConstant_121 rfl (lv_at hl 2 rfl) ?_
              refine lv_iconst (v := 2) hx hb dX13_scanConstant_122 (by decide) ?_
              refine lv_iadd hx hb dX13_scanConstant_123 ?_
              refine lv_iload_n hx hb dX13_scanConstant_124 rfl (lv_at hl 0 rfl) ?_
              refine lv_iadd hx hb dX13_scanConstant_125 ?_
              obtain ⟨hi_22, hsp⟩ := ox_in hsp
              refine va_iald hx hb hK hP 0 0 rfl rfl (i := ((l1_77 + 2) + l3_77)) hi_22 dX13_scanConstant_126 ?_
              refine lv_bipush (v := 126) hx hb dX13_scanConstant_127 (by decide) ?_
              refine lv_icmp_le (tgt := 141) hx hb dX13_scanConstant_129 (by decide) (fun c_23 => ?_) (fun c_23 => ?_)
              · rw [if_pos c_23] at hsp
                refine lv_iinc (v := (l3_77 + 1)) (lv' := [(3, .int (l3_77 + 1)), (0, .ref h0), (1, .int l1_77), (2, .int l2_77)]) hx hb dX13_scanConstant_141 hl (k := 0) rfl rfl (by decide) rfl (fun ls hl => ?_)
                refine lv_goto (tgt := 77) hx hb dX13_scanConstant_144 (by decide) ?_
                exact ih_77 H locs ls z_7 l1_77 l2_77 (l3_77 + 1) u7_1 (hfk_7_112) (hfk_7_113) (hch_7_114) hln_7 hrq_7 (lv_sub hl [0, 1, 2, 3] rfl) hS (hD.sub (ws' := [(h0, .inr (13, z_7)), (qf112, .inl (cf112, 6000, .inl f112))]) [1, 0] (by decide) rfl) (hP.sub (ws' := [(h0, .inr (13, z_7)), (qf112, .inl (cf112, 6000, .inl f112))]) [1, 0] rfl) hsp
              · rw [if_neg c_23] at hsp
                exact hj_132 (H, locs, ls, z_7, l1_77, l2_77, l3_77, u7_1) ⟨lv_sub hl [1, 2, 3, 0] rfl, hS, hD.sub (ws' := [(h0, .inr (13, z_7)), (qf112, .inl (cf112, 6000, .inl f112))]) [1, 0] (by decide) rfl, hP.sub (ws' := [(h0, .inr (13, z_7)), (qf112, .inl (cf112, 6000, .inl f112))]) [1, 0] rfl, hfk_7_112, hfk_7_113, hch_7_114, hln_7, hrq_7, hsp⟩
  intro hj_75
  refine jn_use (α := Heap × List Loc × Array Slot × List Value × Int32 × Int32 × Int32) (fun x9 => x9.1) (fun x9 => x9.2.1) (fun x9 => F0 m 68 x9.2.2.1 []) (fun x9 => match x9 with | (H, locs, ls, z68, l1_68, l2_68, x114_68) => lv_has ls 4 [(0, .ref h0), (1, .int l1_68), (2, .int l2_68)] ∧ va_S A s.heap H locs ∧ va_D A [(h0, .inr (13, z68)), (qf112, .inl (cf112, 6000, .inl f112))] ∧ va_P (dC, dI) vwCl [(h0, .inr (13, z68)), (qf112, .inl (cf112, 6000, .inl f112))] H ∧ z68[112]? = some (.ref qf112) ∧ z68[113]? = some (.int v113) ∧ z68[114]? = some (.int x114_68) ∧ z68.length = 155 ∧ (∀ j : Nat, j ≠ 114 → z68[j]? = zs[j]?) ∧ jn_vm_scanConstant_68 nf a1 v113 v114 f112 l1_68 l2_68 x114_68 = some (r0, w114)) ?_ ?_
  · intro x9 hJ9
    obtain ⟨H, locs, ls, z68, l1_68, l2_68, x114_68⟩ := x9
    obtain ⟨hl, hS, hD, hP, hfh_68_112, hfh_68_113, hfh_68_114, hlh_68, hrh_68, hsp⟩ := hJ9
    replace hl : lv_has ls 4 [(0, .ref h0), (1, .int l1_68), (2, .int l2_68)] := hl
    replace hS : va_S A s.heap H locs := hS
    replace hD : va_D A [(h0, .inr (13, z68)), (qf112, .inl (cf112, 6000, .inl f112))] := hD
    replace hP : va_P (dC, dI) vwCl [(h0, .inr (13, z68)), (qf112, .inl (cf112, 6000, .inl f112))] H := hP
    replace hsp : jn_vm_scanConstant_68 nf a1 v113 v114 f112 l1_68 l2_68 x114_68 = some (r0, w114) := hsp
    show W _ _ _ _ _ _ _ _ _ _ H locs _ _ _ (F0 m 68 ls [])
    unfold jn_vm_scanConstant_68 at hsp
    try dsimp only at hsp
    refine lv_aload_n hx hb dX13_scanConstant_68 rfl (lv_at hl 0 rfl) ?_
    refine lv_iload_n hx hb dX13_scanConstant_69 rfl (lv_at hl 1 rfl) ?_
    refine lv_iconst (v := 1) hx hb dX13_scanConstant_70 (by decide) ?_
    refine lv_iadd hx hb dX13_scanConstant_71 ?_
    obtain ⟨u6_0, hu_6, hsp⟩ := ox_bind hsp
    try dsimp only at hsp
    have hPc := hP.sub (ws' := [(h0, .inr (13, z68))]) [0] rfl
    have hDc := hD.sub (ws' := [(h0, .inr (13, z68))]) [0] (by decide) rfl
    have hKc := hK.sub (tys' := []) [] rfl
    have hFc := va_free (wc := [(h0, .inr (13, z68))]) hD hS hA [0] rfl
    refine va_callv (va_runV (As := [.int (l1_68 + 1)]) (rest := []) ⟨hx, hb, hml, hown, hts⟩ (tm_unfit l dC dI H.size h0 z68 ((l1_68 + 1)) x114_68 nf u6_0 hlh_68 hfh_68_114 hu_6) (cwV 1 hts gv_h9_48 rfl rfl rfl (by decide +kernel) ⟨Nat.le_of_ble_eq_true rfl, Nat.le_of_ble_eq_true rfl⟩) ⟨fun a U g mk q => by obtain ⟨q0, q1, qP, qK, qD⟩ := q; exact ⟨q0, q1, qP, va_K.moved (u := U) (U := U.calling g mk a) (Vm.Alike.refl U.vm) qK, qD⟩, va_recv hKc hPc (ci := 13) (q0 := 0) rfl rfl, fun U hU hW => ⟨rfl, by rw [hU], by rw [hU]; exact hPc, va_K.moved hW.alike hKc, hDc.weaken (fun _ _ _ _ => trivial)⟩⟩ rfl rfl hl.1 rfl (lv_room (Nat.le_of_ble_eq_true rfl)) dX13_scanConstant_72 ⟨Nat.le_of_ble_eq_true rfl, Nat.le_of_ble_eq_true rfl⟩) hS (fun q _ h => hFc q h) hFc ?_
    clear hS
    intro u t H1 locs ht hvm hw hB hz1 hk1 hS
    obtain ⟨z_6, rfl⟩ : ∃ z, z = u := ⟨_, rfl⟩
    obtain ⟨hP1, hK1, hD1⟩ := hB
    rw [ht] at hP1
    have hK1 := va_K.moved hvm.symm hK1
    try dsimp only at hw
    have hPD := va_join (wr := [(qf112, .inl (cf112, 6000, .inl f112))]) (w1 := [(h0, .inr (13, z_6))]) hP hD [0] [1] rfl rfl (by decide) (by decide) hk1 hFc hP1 hD1
    clear hP hD
    obtain ⟨hP, hD⟩ := hPD
    replace hK := (hK.sub (tys' := [(cf112, .int)]) [0] rfl).app hK1
    clear hPc hDc hKc hFc hP1 hK1 hD1 hz1 hk1 ht hvm
    generalize H1 = H at hP hS ⊢
    replace hP : va_P (dC, dI) vwCl [(qf112, .inl (cf112, 6000, .inl f112)), (h0, .inr (13, z_6))] H := hP
    replace hD : va_D A [(qf112, .inl (cf112, 6000, .inl f112)), (h0, .inr (13, z_6))] := hD
    replace hK : va_K (dC, dI) vwCl [(cf112, .int)] s := hK
    obtain ⟨hwa_6, hln_6, hre_6, hch_6_114⟩ := hw
    have hfk_6_112 : z_6[112]? = some (.ref qf112) := (hre_6 112 (by decide)).trans (hfh_68_112)
    have hfk_6_113 : z_6[113]? = some (.int v113) := (hre_6 113 (by decide)).trans (hfh_68_113)
    have hrq_6 : ∀ j : Nat, j ≠ 114 → z_6[j]? = zs[j]? := fun j g114 => (hre_6 j g114).trans (hrh_68 j g114)
    exact hj_75 (H, locs, ls, z_6, l1_68, l2_68, u6_0) ⟨lv_sub hl [0, 1, 2] rfl, hS, hD.sub (ws' := [(h0, .inr (13, z_6)), (qf112, .inl (cf112, 6000, .inl f112))]) [1, 0] (by decide) rfl, hP.sub (ws' := [(h0, .inr (13, z_6)), (qf112, .inl (cf112, 6000, .inl f112))]) [1, 0] rfl, hfk_6_112, hfk_6_113, hch_6_114, hln_6, hrq_6, hsp⟩
  intro hj_68
  refine lv_aload_n hx hb dX13_scanConstant_0 rfl (lv_at hl 0 rfl) ?_
  refine va_get (D := (dC, dI)) (ci := 13) (v := .ref qf112) (C := RX13) (T := TX13) (N := 155) hx hb hts uV_h9_X13 hown hK hP 0 rfl rfl 112 (by decide) (hts (.fieldLink RX13 245 "ClassMillModel" "look" "[I") mw_h9_242) (fun _ h9 => h9) hf112 dX13_scanConstant_1 ?_
  refine lv_iload_n hx hb dX13_scanConstant_4 rfl (lv_at hl 1 rfl) ?_
  obtain ⟨hi_1, hsp⟩ := ox_in hsp
  refine va_iald hx hb hK hP 1 0 rfl rfl (i := a1) hi_1 dX13_scanConstant_5 ?_
  by_cases hs_2 : (f112 (a1 : Int32).toNatClampNeg) = 1
  · rw [if_pos hs_2] at hsp
    refine lv_tableIn (tgt := 36) hx hb dX13_scanConstant_6 (by rw [hs_2]; decide) (by rw [hs_2]; decide) (off := 30) (by rw [hs_2]; rfl) (by decide) ?_
    refine lv_aload_n hx hb dX13_scanConstant_36 rfl (lv_at hl 0 rfl) ?_
    refine lv_iload_n hx hb dX13_scanConstant_37 rfl (lv_at hl 1 rfl) ?_
    refine lv_iconst (v := 1) hx hb dX13_scanConstant_38 (by decide) ?_
    refine lv_iadd hx hb dX13_scanConstant_39 ?_
    obtain ⟨⟨u1_0, u1_1⟩, hu_1, hsp⟩ := ox_bind hsp
    try dsimp only at hsp
    have hPc := hP.sub (ws' := [(h0, .inr (13, zs))]) [0] rfl
    have hDc := hD.sub (ws' := [(h0, .inr (13, zs))]) [0] (by decide) rfl
    have hKc := hK.sub (tys' := []) [] rfl
    have hFc := va_free (wc := [(h0, .inr (13, zs))]) hD hS hA [0] rfl
    refine va_calli (va_runV (As := [.int (a1 + 1)]) (rest := []) ⟨hx, hb, hml, hown, hts⟩ (tm_isByte l dC dI H.size h0 zs ((a1 + 1)) v113 v114 nf u1_0 u1_1 hlen hf113 hf114 hu_1) (cwV 1 hts gv_h9_47 rfl rfl rfl (by decide +kernel) ⟨Nat.le_of_ble_eq_true rfl, Nat.le_of_ble_eq_true rfl⟩) ⟨fun a U g mk q => by obtain ⟨q0, q1, qP, qK, qD⟩ := q; exact ⟨q0, q1, qP, va_K.moved (u := U) (U := U.calling g mk a) (Vm.Alike.refl U.vm) qK, qD⟩, va_recv hKc hPc (ci := 13) (q0 := 0) rfl rfl, fun U hU hW => ⟨rfl, by rw [hU], by rw [hU]; exact hPc, va_K.moved hW.alike hKc, hDc.weaken (fun _ _ _ _ => trivial)⟩⟩ rfl rfl hl.1 rfl (lv_room (Nat.le_of_ble_eq_true rfl)) dX13_scanConstant_40 ⟨Nat.le_of_ble_eq_true rfl, Nat.le_of_ble_eq_true rfl⟩) hS (fun q _ h => hFc q h) hFc ?_
    clear hS
    intro r_3 u t H1 locs ht hvm hw hB hz1 hk1 hS
    obtain ⟨z_1, rfl⟩ : ∃ z, z = u := ⟨_, rfl⟩
    obtain ⟨hP1, hK1, hD1⟩ := hB
    rw [ht] at hP1
    have hK1 := va_K.moved hvm.symm hK1
    try dsimp only at hw
    have hPD := va_join (wr := [(qf112, .inl (cf112, 6000, .inl f112))]) (w1 := [(h0, .inr (13, z_1))]) hP hD [0] [1] rfl rfl (by decide) (by decide) hk1 hFc hP1 hD1
    clear hP hD
    obtain ⟨hP, hD⟩ := hPD
    replace hK := (hK.sub (tys' := [(cf112, .int)]) [0] rfl).app hK1
    clear hPc hDc hKc hFc hP1 hK1 hD1 hz1 hk1 ht hvm
    generalize H1 = H at hP hS ⊢
    replace hP : va_P (dC, dI) vwCl [(qf112, .inl (cf112, 6000, .inl f112)), (h0, .inr (13, z_1))] H := hP
    replace hD : va_D A [(qf112, .inl (cf112, 6000, .inl f112)), (h0, .inr (13, z_1))] := hD
    replace hK : va_K (dC, dI) vwCl [(cf112, .int)] s := hK
    obtain ⟨hwa_1, hln_1, hre_1, hch_1_114⟩ := hw
    have hfk_1_112 : z_1[112]? = some (.ref qf112) := (hre_1 112 (by decide)).trans (hf112)
    have hfk_1_113 : z_1[113]? = some (.int v113) := (hre_1 113 (by decide)).trans (hf113)
    have hrq_1 : ∀ j : Nat, j ≠ 114 → z_1[j]? = zs[j]? := fun j g114 => (hre_1 j g114).trans (hrs0 j g114)
    obtain ⟨rfl, hz_1⟩ := hwa_1
    rcases hz_1 with rfl | rfl
    · rw [if_pos rfl] at hsp
      refine lv_if_ne (tgt := 48) hx hb dX13_scanConstant_43 (by decide) (fun c_4 => (show False by revert c_4; decide).elim) (fun c_4 => ?_)
      refine lv_iload_n hx hb dX13_scanConstant_46 rfl (lv_at hl 1 rfl) ?_
      have hr0 := Option.some.inj hsp
      clear hsp
      obtain ⟨hq0, hr1⟩ := Prod.mk.inj hr0
      clear hr0
      subst hq0
      subst hr1
      have hP9 := hP.sub (ws' := [(h0, .inr (13, z_1)), (qf112, .inl (cf112, 6000, .inl f112))]) [1, 0] rfl
      have hD9 := hD.sub (ws' := [(h0, .inr (13, z_1)), (qf112, .inl (cf112, 6000, .inl f112))]) [1, 0] (by decide) rfl
      have hK9 := hK.sub (tys' := [(cf112, .int)]) [0] rfl
      exact W.iret hx hb hr (fun t ht hW => ⟨⟨(a1), (z_1), rfl, ⟨rfl, hln_1, hrq_1, hch_1_114⟩, by rw [ht]; exact hP9, va_K.moved hW.alike hK9, hD9⟩, hS.F ht⟩) hS.2.2 dX13_scanConstant_47
    · rw [if_neg (by decide)] at hsp
      refine lv_if_ne (tgt := 48) hx hb dX13_scanConstant_43 (by decide) (fun c_5 => ?_) (fun c_5 => (show False by revert c_5; decide).elim)
      refine lv_aload_n hx hb dX13_scanConstant_48 rfl (lv_at hl 0 rfl) ?_
      refine va_get (D := (dC, dI)) (ci := 13) (v := .ref qf112) (C := RX13) (T := TX13) (N := 155) hx hb hts uV_h9_X13 hown hK hP 1 rfl rfl 112 (by decide) (hts (.fieldLink RX13 245 "ClassMillModel" "look" "[I") mw_h9_242) (fun _ h9 => h9) hfk_1_112 dX13_scanConstant_49 ?_
      refine lv_iload_n hx hb dX13_scanConstant_52 rfl (lv_at hl 1 rfl) ?_
      refine lv_iconst (v := 1) hx hb dX13_scanConstant_53 (by decide) ?_
      refine lv_iadd hx hb dX13_scanConstant_54 ?_
      obtain ⟨hi_6, hsp⟩ := ox_in hsp
      refine va_iald hx hb hK hP 0 0 rfl rfl (i := (a1 + 1)) hi_6 dX13_scanConstant_55 ?_
      refine lv_istore_n (lv' := [(2, .int (f112 ((a1 + 1) : Int32).toNatClampNeg)), (0, .ref h0), (1, .int a1)]) hx hb dX13_scanConstant_56 rfl hl (by decide) rfl (fun ls hl => ?_)
      refine lv_iload_n hx hb dX13_scanConstant_57 rfl (lv_at hl 0 rfl) ?_
      refine lv_iconst (v := 1) hx hb dX13_scanConstant_58 (by decide) ?_
      refine lv_icmp_lt (tgt := 68) hx hb dX13_scanConstant_59 (by decide) (fun c_7 => ?_) (fun c_7 => ?_)
      · rw [if_pos c_7] at hsp
        exact hj_68 (H, locs, ls, z_1, a1, (f112 ((a1 + 1) : Int32).toNatClampNeg), u1_1) ⟨lv_sub hl [1, 2, 0] rfl, hS, hD.sub (ws' := [(h0, .inr (13, z_1)), (qf112, .inl (cf112, 6000, .inl f112))]) [1, 0] (by decide) rfl, hP.sub (ws' := [(h0, .inr (13, z_1)), (qf112, .inl (cf112, 6000, .inl f112))]) [1, 0] rfl, hfk_1_112, hfk_1_113, hch_1_114, hln_1, hrq_1, hsp⟩
      · rw [if_neg c_7] at hsp
        refine lv_iload_n hx hb dX13_scanConstant_62 rfl (lv_at hl 0 rfl) ?_
        refine lv_bipush (v := 120) hx hb dX13_scanConstant_63 (by decide) ?_
        refine lv_icmp_le (tgt := 75) hx hb dX13_scanConstant_65 (by decide) (fun c_8 => ?_) (fun c_8 => ?_)
        · rw [if_pos c_8] at hsp
          exact hj_75 (H, locs, ls, z_1, a1, (f112 ((a1 + 1) : Int32).toNatClampNeg), u1_1) ⟨lv_sub hl [1, 2, 0] rfl, hS, hD.sub (ws' := [(h0, .inr (13, z_1)), (qf112, .inl (cf112, 6000, .inl f112))]) [1, 0] (by decide) rfl, hP.sub (ws' := [(h0, .inr (13, z_1)), (qf112, .inl (cf112, 6000, .inl f112))]) [1, 0] rfl, hfk_1_112, hfk_1_113, hch_1_114, hln_1, hrq_1, hsp⟩
        · rw [if_neg c_8] at hsp
          exact hj_68 (H, locs, ls, z_1, a1, (f112 ((a1 + 1) : Int32).toNatClampNeg), u1_1) ⟨lv_sub hl [1, 2, 0] rfl, hS, hD.sub (ws' := [(h0, .inr (13, z_1)), (qf112, .inl (cf112, 6000, .inl f112))]) [1, 0] (by decide) rfl, hP.sub (ws' := [(h0, .inr (13, z_1)), (qf112, .inl (cf112, 6000, .inl f112))]) [1, 0] rfl, hfk_1_112, hfk_1_113, hch_1_114, hln_1, hrq_1, hsp⟩
  rw [if_neg hs_2] at hsp
  by_cases hs_9 : (f112 (a1 : Int32).toNatClampNeg) = 2
  · rw [if_pos hs_9] at hsp
    refine lv_tableIn (tgt := 153) hx hb dX13_scanConstant_6 (by rw [hs_9]; decide) (by rw [hs_9]; decide) (off := 147) (by rw [hs_9]; rfl) (by decide) ?_
    refine lv_aload_n hx hb dX13_scanConstant_153 rfl (lv_at hl 0 rfl) ?_
    refine lv_iload_n hx hb dX13_scanConstant_154 rfl (lv_at hl 1 rfl) ?_
    refine lv_iconst (v := 4) hx hb dX13_scanConstant_155 (by decide) ?_
    refine lv_iadd hx hb dX13_scanConstant_156 ?_
    obtain ⟨⟨u2_0, u2_1⟩, hu_2, hsp⟩ := ox_bind hsp
    try dsimp only at hsp
    have hPc := hP.sub (ws' := [(h0, .inr (13, zs))]) [0] rfl
    have hDc := hD.sub (ws' := [(h0, .inr (13, zs))]) [0] (by decide) rfl
    have hKc := hK.sub (tys' := []) [] rfl
    have hFc := va_free (wc := [(h0, .inr (13, zs))]) hD hS hA [0] rfl
    refine va_calli (va_runV (As := [.int (a1 + 4)]) (rest := []) ⟨hx, hb, hml, hown, hts⟩ (tm_isByte l dC dI H.size h0 zs ((a1 + 4)) v113 v114 nf u2_0 u2_1 hlen hf113 hf114 hu_2) (cwV 1 hts gv_h9_47 rfl rfl rfl (by decide +kernel) ⟨Nat.le_of_ble_eq_true rfl, Nat.le_of_ble_eq_true rfl⟩) ⟨fun a U g mk q => by obtain ⟨q0, q1, qP, qK, qD⟩ := q; exact ⟨q0, q1, qP, va_K.moved (u := U) (U := U.calling g mk a) (Vm.Alike.refl U.vm) qK, qD⟩, va_recv hKc hPc (ci := 13) (q0 := 0) rfl rfl, fun U hU hW => ⟨rfl, by rw [hU], by rw [hU]; exact hPc, va_K.moved hW.alike hKc, hDc.weaken (fun _ _ _ _ => trivial)⟩⟩ rfl rfl hl.1 rfl (lv_room (Nat.le_of_ble_eq_true rfl)) dX13_scanConstant_157 ⟨Nat.le_of_ble_eq_true rfl, Nat.le_of_ble_eq_true rfl⟩) hS (fun q _ h => hFc q h) hFc ?_
    clear hS
    intro r_10 u t H1 locs ht hvm hw hB hz1 hk1 hS
    obtain ⟨z_2, rfl⟩ : ∃ z, z = u := ⟨_, rfl⟩
    obtain ⟨hP1, hK1, hD1⟩ := hB
    rw [ht] at hP1
    have hK1 := va_K.moved hvm.symm hK1
    try dsimp only at hw
    have hPD := va_join (wr := [(qf112, .inl (cf112, 6000, .inl f112))]) (w1 := [(h0, .inr (13, z_2))]) hP hD [0] [1] rfl rfl (by decide) (by decide) hk1 hFc hP1 hD1
    clear hP hD
    obtain ⟨hP, hD⟩ := hPD
    replace hK := (hK.sub (tys' := [(cf112, .int)]) [0] rfl).app hK1
    clear hPc hDc hKc hFc hP1 hK1 hD1 hz1 hk1 ht hvm
    generalize H1 = H at hP hS ⊢
    replace hP : va_P (dC, dI) vwCl [(qf112, .inl (cf112, 6000, .inl f112)), (h0, .inr (13, z_2))] H := hP
    replace hD : va_D A [(qf112, .inl (cf112, 6000, .inl f112)), (h0, .inr (13, z_2))] := hD
    replace hK : va_K (dC, dI) vwCl [(cf112, .int)] s := hK
    obtain ⟨hwa_2, hln_2, hre_2, hch_2_114⟩ := hw
    have hfk_2_112 : z_2[112]? = some (.ref qf112) := (hre_2 112 (by decide)).trans (hf112)
    have hfk_2_113 : z_2[113]? = some (.int v113) := (hre_2 113 (by decide)).trans (hf113)
    have hrq_2 : ∀ j : Nat, j ≠ 114 → z_2[j]? = zs[j]? := fun j g114 => (hre_2 j g114).trans (hrs0 j g114)
    obtain ⟨rfl, hz_2⟩ := hwa_2
    rcases hz_2 with rfl | rfl
    · rw [if_pos rfl] at hsp
      refine lv_pop hx hb dX13_scanConstant_160 rfl ?_
      refine lv_iload_n hx hb dX13_scanConstant_161 rfl (lv_at hl 1 rfl) ?_
      refine lv_iconst (v := 5) hx hb dX13_scanConstant_162 (by decide) ?_
      refine lv_iadd hx hb dX13_scanConstant_163 ?_
      have hr0 := Option.some.inj hsp
      clear hsp
      obtain ⟨hq0, hr1⟩ := Prod.mk.inj hr0
      clear hr0
      subst hq0
      subst hr1
      have hP9 := hP.sub (ws' := [(h0, .inr (13, z_2)), (qf112, .inl (cf112, 6000, .inl f112))]) [1, 0] rfl
      have hD9 := hD.sub (ws' := [(h0, .inr (13, z_2)), (qf112, .inl (cf112, 6000, .inl f112))]) [1, 0] (by decide) rfl
      have hK9 := hK.sub (tys' := [(cf112, .int)]) [0] rfl
      exact W.iret hx hb hr (fun t ht hW => ⟨⟨((a1 + 5)), (z_2), rfl, ⟨rfl, hln_2, hrq_2, hch_2_114⟩, by rw [ht]; exact hP9, va_K.moved hW.alike hK9, hD9⟩, hS.F ht⟩) hS.2.2 dX13_scanConstant_164
    · rw [if_neg (by decide)] at hsp
      refine lv_pop hx hb dX13_scanConstant_160 rfl ?_
      refine lv_iload_n hx hb dX13_scanConstant_161 rfl (lv_at hl 1 rfl) ?_
      refine lv_iconst (v := 5) hx hb dX13_scanConstant_162 (by decide) ?_
      refine lv_iadd hx hb dX13_scanConstant_163 ?_
      have hr0 := Option.some.inj hsp
      clear hsp
      obtain ⟨hq0, hr1⟩ := Prod.mk.inj hr0
      clear hr0
      subst hq0
      subst hr1
      have hP9 := hP.sub (ws' := [(h0, .inr (13, z_2)), (qf112, .inl (cf112, 6000, .inl f112))]) [1, 0] rfl
      have hD9 := hD.sub (ws' := [(h0, .inr (13, z_2)), (qf112, .inl (cf112, 6000, .inl f112))]) [1, 0] (by decide) rfl
      have hK9 := hK.sub (tys' := [(cf112, .int)]) [0] rfl
      exact W.iret hx hb hr (fun t ht hW => ⟨⟨((a1 + 5)), (z_2), rfl, ⟨rfl, hln_2, hrq_2, hch_2_114⟩, by rw [ht]; exact hP9, va_K.moved hW.alike hK9, hD9⟩, hS.F ht⟩) hS.2.2 dX13_scanConstant_164
  rw [if_neg hs_9] at hsp
  by_cases hs_11 : (f112 (a1 : Int32).toNatClampNeg) = 3
  · rw [if_pos hs_11] at hsp
    refine lv_tableIn (tgt := 165) hx hb dX13_scanConstant_6 (by rw [hs_11]; decide) (by rw [hs_11]; decide) (off := 159) (by rw [hs_11]; rfl) (by decide) ?_
    refine lv_aload_n hx hb dX13_scanConstant_165 rfl (lv_at hl 0 rfl) ?_
    refine lv_iload_n hx hb dX13_scanConstant_166 rfl (lv_at hl 1 rfl) ?_
    refine lv_iconst (v := 1) hx hb dX13_scanConstant_167 (by decide) ?_
    refine lv_iadd hx hb dX13_scanConstant_168 ?_
    obtain ⟨⟨u3_0, u3_1⟩, hu_3, hsp⟩ := ox_bind hsp
    try dsimp only at hsp
    have hPc := hP.sub (ws' := [(h0, .inr (13, zs))]) [0] rfl
    have hDc := hD.sub (ws' := [(h0, .inr (13, zs))]) [0] (by decide) rfl
    have hKc := hK.sub (tys' := []) [] rfl
    have hFc := va_free (wc := [(h0, .inr (13, zs))]) hD hS hA [0] rfl
    refine va_calli (va_runV (As := [.int (a1 + 1)]) (rest := []) ⟨hx, hb, hml, hown, hts⟩ (tm_isByte l dC dI H.size h0 zs ((a1 + 1)) v113 v114 nf u3_0 u3_1 hlen hf113 hf114 hu_3) (cwV 1 hts gv_h9_47 rfl rfl rfl (by decide +kernel) ⟨Nat.le_of_ble_eq_true rfl, Nat.le_of_ble_eq_true rfl⟩) ⟨fun a U g mk q => by obtain ⟨q0, q1, qP, qK, qD⟩ := q; exact ⟨q0, q1, qP, va_K.moved (u := U) (U := U.calling g mk a) (Vm.Alike.refl U.vm) qK, qD⟩, va_recv hKc hPc (ci := 13) (q0 := 0) rfl rfl, fun U hU hW => ⟨rfl, by rw [hU], by rw [hU]; exact hPc, va_K.moved hW.alike hKc, hDc.weaken (fun _ _ _ _ => trivial)⟩⟩ rfl rfl hl.1 rfl (lv_room (Nat.le_of_ble_eq_true rfl)) dX13_scanConstant_169 ⟨Nat.le_of_ble_eq_true rfl, Nat.le_of_ble_eq_true rfl⟩) hS (fun q _ h => hFc q h) hFc ?_
    clear hS
    intro r_12 u t H1 locs ht hvm hw hB hz1 hk1 hS
    obtain ⟨z_3, rfl⟩ : ∃ z, z = u := ⟨_, rfl⟩
    obtain ⟨hP1, hK1, hD1⟩ := hB
    rw [ht] at hP1
    have hK1 := va_K.moved hvm.symm hK1
    try dsimp only at hw
    have hPD := va_join (wr := [(qf112, .inl (cf112, 6000, .inl f112))]) (w1 := [(h0, .inr (13, z_3))]) hP hD [0] [1] rfl rfl (by decide) (by decide) hk1 hFc hP1 hD1
    clear hP hD
    obtain ⟨hP, hD⟩ := hPD
    replace hK := (hK.sub (tys' := [(cf112, .int)]) [0] rfl).app hK1
    clear hPc hDc hKc hFc hP1 hK1 hD1 hz1 hk1 ht hvm
    generalize H1 = H at hP hS ⊢
    replace hP : va_P (dC, dI) vwCl [(qf112, .inl (cf112, 6000, .inl f112)), (h0, .inr (13, z_3))] H := hP
    replace hD : va_D A [(qf112, .inl (cf112, 6000, .inl f112)), (h0, .inr (13, z_3))] := hD
    replace hK : va_K (dC, dI) vwCl [(cf112, .int)] s := hK
    obtain ⟨hwa_3, hln_3, hre_3, hch_3_114⟩ := hw
    have hfk_3_112 : z_3[112]? = some (.ref qf112) := (hre_3 112 (by decide)).trans (hf112)
    have hfk_3_113 : z_3[113]? = some (.int v113) := (hre_3 113 (by decide)).trans (hf113)
    have hrq_3 : ∀ j : Nat, j ≠ 114 → z_3[j]? = zs[j]? := fun j g114 => (hre_3 j g114).trans (hrs0 j g114)
    obtain ⟨rfl, hz_3⟩ := hwa_3
    rcases hz_3 with rfl | rfl
    · rw [if_pos rfl] at hsp
      refine lv_pop hx hb dX13_scanConstant_172 rfl ?_
      refine lv_iload_n hx hb dX13_scanConstant_173 rfl (lv_at hl 1 rfl) ?_
      refine lv_iconst (v := 2) hx hb dX13_scanConstant_174 (by decide) ?_
      refine lv_iadd hx hb dX13_scanConstant_175 ?_
      have hr0 := Option.some.inj hsp
      clear hsp
      obtain ⟨hq0, hr1⟩ := Prod.mk.inj hr0
      clear hr0
      subst hq0
      subst hr1
      have hP9 := hP.sub (ws' := [(h0, .inr (13, z_3)), (qf112, .inl (cf112, 6000, .inl f112))]) [1, 0] rfl
      have hD9 := hD.sub (ws' := [(h0, .inr (13, z_3)), (qf112, .inl (cf112, 6000, .inl f112))]) [1, 0] (by decide) rfl
      have hK9 := hK.sub (tys' := [(cf112, .int)]) [0] rfl
      exact W.iret hx hb hr (fun t ht hW => ⟨⟨((a1 + 2)), (z_3), rfl, ⟨rfl, hln_3, hrq_3, hch_3_114⟩, by rw [ht]; exact hP9, va_K.moved hW.alike hK9, hD9⟩, hS.F ht⟩) hS.2.2 dX13_scanConstant_176
    · rw [if_neg (by decide)] at hsp
      refine lv_pop hx hb dX13_scanConstant_172 rfl ?_
      refine lv_iload_n hx hb dX13_scanConstant_173 rfl (lv_at hl 1 rfl) ?_
      refine lv_iconst (v := 2) hx hb dX13_scanConstant_174 (by decide) ?_
      refine lv_iadd hx hb dX13_scanConstant_175 ?_
      have hr0 := Option.some.inj hsp
      clear hsp
      obtain ⟨hq0, hr1⟩ := Prod.mk.inj hr0
      clear hr0
      subst hq0
      subst hr1
      have hP9 := hP.sub (ws' := [(h0, .inr (13, z_3)), (qf112, .inl (cf112, 6000, .inl f112))]) [1, 0] rfl
      have hD9 := hD.sub (ws' := [(h0, .inr (13, z_3)), (qf112, .inl (cf112, 6000, .inl f112))]) [1, 0] (by decide) rfl
      have hK9 := hK.sub (tys' := [(cf112, .int)]) [0] rfl
      exact W.iret hx hb hr (fun t ht hW => ⟨⟨((a1 + 2)), (z_3), rfl, ⟨rfl, hln_3, hrq_3, hch_3_114⟩, by rw [ht]; exact hP9, va_K.moved hW.alike hK9, hD9⟩, hS.F ht⟩) hS.2.2 dX13_scanConstant_176
  rw [if_neg hs_11] at hsp
  by_cases hs_13 : (f112 (a1 : Int32).toNatClampNeg) = 4
  · rw [if_pos hs_13] at hsp
    refine lv_tableIn (tgt := 177) hx hb dX13_scanConstant_6 (by rw [hs_13]; decide) (by rw [hs_13]; decide) (off := 171) (by rw [hs_13]; rfl) (by decide) ?_
    refine lv_aload_n hx hb dX13_scanConstant_177 rfl (lv_at hl 0 rfl) ?_
    refine lv_iload_n hx hb dX13_scanConstant_178 rfl (lv_at hl 1 rfl) ?_
    refine lv_iconst (v := 3) hx hb dX13_scanConstant_179 (by decide) ?_
    refine lv_iadd hx hb dX13_scanConstant_180 ?_
    obtain ⟨⟨u4_0, u4_1⟩, hu_4, hsp⟩ := ox_bind hsp
    try dsimp only at hsp
    have hPc := hP.sub (ws' := [(h0, .inr (13, zs))]) [0] rfl
    have hDc := hD.sub (ws' := [(h0, .inr (13, zs))]) [0] (by decide) rfl
    have hKc := hK.sub (tys' := []) [] rfl
    have hFc := va_free (wc := [(h0, .inr (13, zs))]) hD hS hA [0] rfl
    refine va_calli (va_runV (As := [.int (a1 + 3)]) (rest := []) ⟨hx, hb, hml, hown, hts⟩ (tm_isByte l dC dI H.size h0 zs ((a1 + 3)) v113 v114 nf u4_0 u4_1 hlen hf113 hf114 hu_4) (cwV 1 hts gv_h9_47 rfl rfl rfl (by decide +kernel) ⟨Nat.le_of_ble_eq_true rfl, Nat.le_of_ble_eq_true rfl⟩) ⟨fun a U g mk q => by obtain ⟨q0, q1, qP, qK, qD⟩ := q; exact ⟨q0, q1, qP, va_K.moved (u := U) (U := U.calling g mk a) (Vm.Alike.refl U.vm) qK, qD⟩, va_recv hKc hPc (ci := 13) (q0 := 0) rfl rfl, fun U hU hW => ⟨rfl, by rw [hU], by rw [hU]; exact hPc, va_K.moved hW.alike hKc, hDc.weaken (fun _ _ _ _ => trivial)⟩⟩ rfl rfl hl.1 rfl (lv_room (Nat.le_of_ble_eq_true rfl)) dX13_scanConstant_181 ⟨Nat.le_of_ble_eq_true rfl, Nat.le_of_ble_eq_true rfl⟩) hS (fun q _ h => hFc q h) hFc ?_
    clear hS
    intro r_14 u t H1 locs ht hvm hw hB hz1 hk1 hS
    obtain ⟨z_4, rfl⟩ : ∃ z, z = u := ⟨_, rfl⟩
    obtain ⟨hP1, hK1, hD1⟩ := hB
    rw [ht] at hP1
    have hK1 := va_K.moved hvm.symm hK1
    try dsimp only at hw
    have hPD := va_join (wr := [(qf112, .inl (cf112, 6000, .inl f112))]) (w1 := [(h0, .inr (13, z_4))]) hP hD [0] [1] rfl rfl (by decide) (by decide) hk1 hFc hP1 hD1
    clear hP hD
    obtain ⟨hP, hD⟩ := hPD
    replace hK := (hK.sub (tys' := [(cf112, .int)]) [0] rfl).app hK1
    clear hPc hDc hKc hFc hP1 hK1 hD1 hz1 hk1 ht hvm
    generalize H1 = H at hP hS ⊢
    replace hP : va_P (dC, dI) vwCl [(qf112, .inl (cf112, 6000, .inl f112)), (h0, .inr (13, z_4))] H := hP
    replace hD : va_D A [(qf112, .inl (cf112, 6000, .inl f112)), (h0, .inr (13, z_4))] := hD
    replace hK : va_K (dC, dI) vwCl [(cf112, .int)] s := hK
    obtain ⟨hwa_4, hln_4, hre_4, hch_4_114⟩ := hw
    have hfk_4_112 : z_4[112]? = some (.ref qf112) := (hre_4 112 (by decide)).trans (hf112)
    have hfk_4_113 : z_4[113]? = some (.int v113) := (hre_4 113 (by decide)).trans (hf113)
    have hrq_4 : ∀ j : Nat, j ≠ 114 → z_4[j]? = zs[j]? := fun j g114 => (hre_4 j g114).trans (hrs0 j g114)
    obtain ⟨rfl, hz_4⟩ := hwa_4
    rcases hz_4 with rfl | rfl
    · rw [if_pos rfl] at hsp
      refine lv_pop hx hb dX13_scanConstant_184 rfl ?_
      refine lv_iload_n hx hb dX13_scanConstant_185 rfl (lv_at hl 1 rfl) ?_
      refine lv_iconst (v := 4) hx hb dX13_scanConstant_186 (by decide) ?_
      refine lv_iadd hx hb dX13_scanConstant_187 ?_
      have hr0 := Option.some.inj hsp
      clear hsp
      obtain ⟨hq0, hr1⟩ := Prod.mk.inj hr0
      clear hr0
      subst hq0
      subst hr1
      have hP9 := hP.sub (ws' := [(h0, .inr (13, z_4)), (qf112, .inl (cf112, 6000, .inl f112))]) [1, 0] rfl
      have hD9 := hD.sub (ws' := [(h0, .inr (13, z_4)), (qf112, .inl (cf112, 6000, .inl f112))]) [1, 0] (by decide) rfl
      have hK9 := hK.sub (tys' := [(cf112, .int)]) [0] rfl
      exact W.iret hx hb hr (fun t ht hW => ⟨⟨((a1 + 4)), (z_4), rfl, ⟨rfl, hln_4, hrq_4, hch_4_114⟩, by rw [ht]; exact hP9, va_K.moved hW.alike hK9, hD9⟩, hS.F ht⟩) hS.2.2 dX13_scanConstant_188
    · rw [if_neg (by decide)] at hsp
      refine lv_pop hx hb dX13_scanConstant_184 rfl ?_
      refine lv_iload_n hx hb dX13_scanConstant_185 rfl (lv_at hl 1 rfl) ?_
      refine lv_iconst (v := 4) hx hb dX13_scanConstant_186 (by decide) ?_
      refine lv_iadd hx hb dX13_scanConstant_187 ?_
      have hr0 := Option.some.inj hsp
      clear hsp
      obtain ⟨hq0, hr1⟩ := Prod.mk.inj hr0
      clear hr0
      subst hq0
      subst hr1
      have hP9 := hP.sub (ws' := [(h0, .inr (13, z_4)), (qf112, .inl (cf112, 6000, .inl f112))]) [1, 0] rfl
      have hD9 := hD.sub (ws' := [(h0, .inr (13, z_4)), (qf112, .inl (cf112, 6000, .inl f112))]) [1, 0] (by decide) rfl
      have hK9 := hK.sub (tys' := [(cf112, .int)]) [0] rfl
      exact W.iret hx hb hr (fun t ht hW => ⟨⟨((a1 + 4)), (z_4), rfl, ⟨rfl, hln_4, hrq_4, hch_4_114⟩, by rw [ht]; exact hP9, va_K.moved hW.alike hK9, hD9⟩, hS.F ht⟩) hS.2.2 dX13_scanConstant_188
  rw [if_neg hs_13] at hsp
  refine lv_tableOut (tgt := 189) hx hb dX13_scanConstant_6 (by have a0 := lv_neT hs_2 (a := 1) rfl; have a1 := lv_neT hs_9 (a := 2) rfl; have a2 := lv_neT hs_11 (a := 3) rfl; have a3 := lv_neT hs_13 (a := 4) rfl; omega) (by decide) ?_
  refine lv_aload_n hx hb dX13_scanConstant_189 rfl (lv_at hl 0 rfl) ?_
  refine lv_iload_n hx hb dX13_scanConstant_190 rfl (lv_at hl 1 rfl) ?_
  obtain ⟨u5_0, hu_5, hsp⟩ := ox_bind hsp
  try dsimp only at hsp
  have hPc := hP.sub (ws' := [(h0, .inr (13, zs))]) [0] rfl
  have hDc := hD.sub (ws' := [(h0, .inr (13, zs))]) [0] (by decide) rfl
  have hKc := hK.sub (tys' := []) [] rfl
  have hFc := va_free (wc := [(h0, .inr (13, zs))]) hD hS hA [0] rfl
  refine va_callv (va_runV (As := [.int a1]) (rest := []) ⟨hx, hb, hml, hown, hts⟩ (tm_unfit l dC dI H.size h0 zs a1 v114 nf u5_0 hlen hf114 hu_5) (cwV 1 hts gv_h9_48 rfl rfl rfl (by decide +kernel) ⟨Nat.le_of_ble_eq_true rfl, Nat.le_of_ble_eq_true rfl⟩) ⟨fun a U g mk q => by obtain ⟨q0, q1, qP, qK, qD⟩ := q; exact ⟨q0, q1, qP, va_K.moved (u := U) (U := U.calling g mk a) (Vm.Alike.refl U.vm) qK, qD⟩, va_recv hKc hPc (ci := 13) (q0 := 0) rfl rfl, fun U hU hW => ⟨rfl, by rw [hU], by rw [hU]; exact hPc, va_K.moved hW.alike hKc, hDc.weaken (fun _ _ _ _ => trivial)⟩⟩ rfl rfl hl.1 rfl (lv_room (Nat.le_of_ble_eq_true rfl)) dX13_scanConstant_191 ⟨Nat.le_of_ble_eq_true rfl, Nat.le_of_ble_eq_true rfl⟩) hS (fun q _ h => hFc q h) hFc ?_
  clear hS
  intro u t H1 locs ht hvm hw hB hz1 hk1 hS
  obtain ⟨z_5, rfl⟩ : ∃ z, z = u := ⟨_, rfl⟩
  obtain ⟨hP1, hK1, hD1⟩ := hB
  rw [ht] at hP1
  have hK1 := va_K.moved hvm.symm hK1
  try dsimp only at hw
  have hPD := va_join (wr := [(qf112, .inl (cf112, 6000, .inl f112))]) (w1 := [(h0, .inr (13, z_5))]) hP hD [0] [1] rfl rfl (by decide) (by decide) hk1 hFc hP1 hD1
  clear hP hD
  obtain ⟨hP, hD⟩ := hPD
  replace hK := (hK.sub (tys' := [(cf112, .int)]) [0] rfl).app hK1
  clear hPc hDc hKc hFc hP1 hK1 hD1 hz1 hk1 ht hvm
  generalize H1 = H at hP hS ⊢
  replace hP : va_P (dC, dI) vwCl [(qf112, .inl (cf112, 6000, .inl f112)), (h0, .inr (13, z_5))] H := hP
  replace hD : va_D A [(qf112, .inl (cf112, 6000, .inl f112)), (h0, .inr (13, z_5))] := hD
  replace hK : va_K (dC, dI) vwCl [(cf112, .int)] s := hK
  obtain ⟨hwa_5, hln_5, hre_5, hch_5_114⟩ := hw
  have hfk_5_112 : z_5[112]? = some (.ref qf112) := (hre_5 112 (by decide)).trans (hf112)
  have hfk_5_113 : z_5[113]? = some (.int v113) := (hre_5 113 (by decide)).trans (hf113)
  have hrq_5 : ∀ j : Nat, j ≠ 114 → z_5[j]? = zs[j]? := fun j g114 => (hre_5 j g114).trans (hrs0 j g114)
  refine lv_iload_n hx hb dX13_scanConstant_194 rfl (lv_at hl 1 rfl) ?_
  have hr0 := Option.some.inj hsp
  clear hsp
  obtain ⟨hq0, hr1⟩ := Prod.mk.inj hr0
  clear hr0
  subst hq0
  subst hr1
  have hP9 := hP.sub (ws' := [(h0, .inr (13, z_5)), (qf112, .inl (cf112, 6000, .inl f112))]) [1, 0] rfl
  have hD9 := hD.sub (ws' := [(h0, .inr (13, z_5)), (qf112, .inl (cf112, 6000, .inl f112))]) [1, 0] (by decide) rfl
  have hK9 := hK.sub (tys' := [(cf112, .int)]) [0] rfl
  exact W.iret hx hb hr (fun t ht hW => ⟨⟨(a1), (z_5), rfl, ⟨rfl, hln_5, hrq_5, hch_5_114⟩, by rw [ht]; exact hP9, va_K.moved hW.alike hK9, hD9⟩, hS.F ht⟩) hS.2.2 dX13_scanConstant_195
def jn_vm_checkConstant_105 (nf : Nat) (a1 : Int32) (v114 : Int32) (v115 : Int32) (f112 : Nat → Int32) (f103 : Nat → Int32) (f102 : Nat → Int32)  (l1_105 : Int32) (x114_105 : Int32) : Option (Int32) := (if (l1_105 + 3) < 0 then none else if 6000 ≤ ((l1_105 + 3) : Int32).toNatClampNeg then none else ((sp_vm_isText nf (f112 ((l1_105 + 3) : Int32).toNatClampNeg) 3 v115 f103 f102 f112).bind (fun p1 => (if p1 = 0 then ((sp_tm_unfit nf (l1_105 + 3) x114_105).bind (fun p2 => (some p2))) else (some x114_105)))))
def jn_vm_checkConstant_82 (nf : Nat) (a1 : Int32) (v114 : Int32) (v115 : Int32) (f112 : Nat → Int32) (f103 : Nat → Int32) (f102 : Nat → Int32)  (l1_82 : Int32) (x114_82 : Int32) : Option (Int32) := (if (l1_82 + 2) < 0 then none else if 6000 ≤ ((l1_82 + 2) : Int32).toNatClampNeg then none else ((sp_vm_isText nf (f112 ((l1_82 + 2) : Int32).toNatClampNeg) 0 v115 f103 f102 f112).bind (fun p1 => (if p1 = 0 then ((sp_tm_unfit nf (l1_82 + 2) x114_82).bind (fun p2 => (jn_vm_checkConstant_105 nf a1 v114 v115 f112 f103 f102  l1_82 p2))) else (jn_vm_checkConstant_105 nf a1 v114 v115 f112 f103 f102  l1_82 x114_82)))))
def jn_vm_checkConstant_75 (nf : Nat) (a1 : Int32) (v114 : Int32) (v115 : Int32) (f112 : Nat → Int32) (f103 : Nat → Int32) (f102 : Nat → Int32)  (l1_75 : Int32) (x114_75 : Int32) : Option (Int32) := ((sp_tm_unfit nf (l1_75 + 1) x114_75).bind (fun p1 => (jn_vm_checkConstant_82 nf a1 v114 v115 f112 f103 f102  l1_75 p1)))
def jn_vm_checkConstant_33 (nf : Nat) (a1 : Int32) (v114 : Int32) (v115 : Int32) (f112 : Nat → Int32) (f103 : Nat → Int32) (f102 : Nat → Int32)  (l1_33 : Int32) (x114_33 : Int32) : Option (Int32) := (if l1_33 < 0 then none else if 6000 ≤ (l1_33 : Int32).toNatClampNeg then none else (if (f112 (l1_33 : Int32).toNatClampNeg) = 4 then (if (l1_33 + 1) < 0 then none else if 6000 ≤ ((l1_33 + 1) : Int32).toNatClampNeg then none else ((sp_tm_constantOf nf v115 (f112 ((l1_33 + 1) : Int32).toNatClampNeg) f103 f102).bind (fun p1 => (if p1 < 0 then (jn_vm_checkConstant_75 nf a1 v114 v115 f112 f103 f102  l1_33 x114_33) else (if p1 < 0 then none else if 6000 ≤ (p1 : Int32).toNatClampNeg then none else (if (f112 (p1 : Int32).toNatClampNeg) = 3 then (jn_vm_checkConstant_82 nf a1 v114 v115 f112 f103 f102  l1_33 x114_33) else (jn_vm_checkConstant_75 nf a1 v114 v115 f112 f103 f102  l1_33 x114_33))))))) else (some x114_33)))
def sp_vm_checkConstant (nf : Nat) (a1 : Int32) (v114 : Int32) (v115 : Int32) (f112 : Nat → Int32) (f103 : Nat → Int32) (f102 : Nat → Int32) : Option (Int32) := (if a1 < 0 then none else if 6000 ≤ (a1 : Int32).toNatClampNeg then none else (if (f112 (a1 : Int32).toNatClampNeg) = 3 then (if (a1 + 1) < 0 then none else if 6000 ≤ ((a1 + 1) : Int32).toNatClampNeg then none else ((sp_vm_isText nf (f112 ((a1 + 1) : Int32).toNatClampNeg) 4 v115 f103 f102 f112).bind (fun p1 => (if p1 = 0 then ((sp_tm_unfit nf (a1 + 1) v114).bind (fun p2 => (jn_vm_checkConstant_33 nf a1 v114 v115 f112 f103 f102  a1 p2))) else (jn_vm_checkConstant_33 nf a1 v114 v115 f112 f103 f102  a1 v114))))) else (jn_vm_checkConstant_33 nf a1 v114 v115 f112 f103 f102  a1 v114)))
set_option maxHeartbeats 4000000 in
set_option maxRecDepth 100000 in
/-- ClassMillModel.checkConstant -/
theorem vm_checkConstant (l : Launch) (dC : Nat → ClassId) (dI : Nat → Nat → Nat) (sz : Nat) (h0 : Nat) (zs : (List Value)) (a1 : Int32) (qf102 : Nat) (qf103 : Nat) (qf112 : Nat) (v114 : Int32) (v115 : Int32) (cf112 : ClassId) (f112 : (Nat → Int32)) (cf103 : ClassId) (f103 : (Nat → Int32)) (cf102 : ClassId) (f102 : (Nat → Int32)) (nf : Nat) (w114 : Int32) (hlen : zs.length = 155) (hf102 : zs[102]? = some (.ref qf102)) (hf103 : zs[103]? = some (.ref qf103)) (hf112 : zs[112]? = some (.ref qf112)) (hf114 : zs[114]? = some (.int v114)) (hf115 : zs[115]? = some (.int v115)) (hsp : sp_vm_checkConstant nf a1 v114 v115 f112 f103 f102 = some w114) : Met l yX13_checkConstant (.code yX13_checkConstant cX13_checkConstant 3 none :: VS_h9) ({ frames := 8, cells := 0, slots := 0, locals := 184 }) (va_Pc [.ref h0, .int a1] (fun U => U.heap.size = sz ∧ va_P (dC, dI) vwCl [(h0, .inr (13, zs)), (qf112, .inl (cf112, 6000, .inl f112)), (qf103, .inl (cf103, 8, .inl f103)), (qf102, .inl (cf102, 2048, .inl f102))] U.heap ∧ va_K (dC, dI) vwCl [(cf112, .int), (cf103, .int), (cf102, .int)] U ∧ va_D (fun _ => True) [(h0, .inr (13, zs)), (qf112, .inl (cf112, 6000, .inl f112)), (qf103, .inl (cf103, 8, .inl f103)), (qf102, .inl (cf102, 2048, .inl f102))])) (va_Qv (fun (u : (List Value)) => match u with | (zo1) => True ∧ zo1.length = 155 ∧ (∀ j : Nat, j ≠ 114 → zo1[j]? = zs[j]?) ∧ zo1[114]? = some (.int w114)) (fun (u : (List Value)) (t : State) => match u with | (zo1) => va_P (dC, dI) vwCl [(h0, .inr (13, zo1)), (qf112, .inl (cf112, 6000, .inl f112)), (qf103, .inl (cf103, 8, .inl f103)), (qf102, .inl (cf102, 2048, .inl f102))] t.heap ∧ va_K (dC, dI) vwCl [(cf112, .int), (cf103, .int), (cf102, .int)] t ∧ va_D (va_A [(h0, .inr (13, zs)), (qf112, .inl (cf112, 6000, .inl f112)), (qf103, .inl (cf103, 8, .inl f103)), (qf102, .inl (cf102, 2048, .inl f102))] sz) [(h0, .inr (13, zo1)), (qf112, .inl (cf112, 6000, .inl f112)), (qf103, .inl (cf103, 8, .inl f103)), (qf102, .inl (cf102, 2048, .inl f102))]) (va_A [(h0, .inr (13, zs)), (qf112, .inl (cf112, 6000, .inl f112)), (qf103, .inl (cf103, 8, .inl f103)), (qf102, .inl (cf102, 2048, .inl f102))] sz)) 0 0 (va_A [(h0, .inr (13, zs)), (qf112, .inl (cf112, 6000, .inl f112)), (qf103, .inl (cf103, 8, .inl f103)), (qf102, .inl (cf102, 2048, .inl f102))] sz) := by
  refine Met.ofW (cc := cX13_checkConstant) (maxL := 3) (ret := none) (by decide) rfl ?_
  intro p e s m args below meth c s₁ B hml hv
  obtain ⟨rfl, hsz, hP, hK, hD0⟩ := hv
  have hx := B.exec
  have hb := B.bytes
  have hr := B.returns
  have hts := atoms_spec (ws := (.code yX13_checkConstant cX13_checkConstant 3 none :: VS_h9)) B.pre
  replace hts := fun w (h : w ∈ VS_h9) => hts w (List.mem_cons_of_mem _ h)
  have hown : s.vm.findClass RX13 = some m.cls := findClass_of_methodNamed B.named
  have hlocks := B.notSynchronized
  subst hsz
  have hD := hD0.self (sz := s.heap.size)
  generalize hAe : va_A [(h0, .inr (13, zs)), (qf112, .inl (cf112, 6000, .inl f112)), (qf103, .inl (cf103, 8, .inl f103)), (qf102, .inl (cf102, 2048, .inl f102))] s.heap.size = A at hD  ⊢
  have hA : ∀ q : Nat, s.heap.size ≤ q → A q := fun q h => by rw [← hAe]; exact Or.inr h
  have hP : va_P (dC, dI) vwCl [(h0, .inr (13, zs)), (qf112, .inl (cf112, 6000, .inl f112)), (qf103, .inl (cf103, 8, .inl f103)), (qf102, .inl (cf102, 2048, .inl f102))] s.heap := hP
  have hl := lv_entry ([.ref h0, .int a1]) (n := 3) (Nat.le_of_ble_eq_true rfl)
  rw [lg_entry_eq]
  generalize (lg_sl ([.ref h0, .int a1]) ++ List.replicate (3 - (lg_sl ([.ref h0, .int a1])).length) Slot.unset).toArray = ls at hl ⊢
  have hl : lv_has ls 3 [(0, .ref h0), (1, .int a1)] := hl
  obtain ⟨H, hH⟩ : ∃ H : Heap, s.heap = H := ⟨_, rfl⟩
  rw [hH] at hP ⊢
  have hS : va_S A s.heap H [] := by rw [← hH]; exact va_S.rf
  obtain ⟨locs, hlo⟩ : ∃ locs : List Loc, locs = [] := ⟨_, rfl⟩
  rw [← hlo] at hS ⊢
  have hrs0 : ∀ j : Nat, j ≠ 114 → zs[j]? = zs[j]? := fun _ _  => rfl
  unfold sp_vm_checkConstant at hsp
  refine jn_use (α := Heap × List Loc × Array Slot × List Value × Int32 × Int32) (fun x9 => x9.1) (fun x9 => x9.2.1) (fun x9 => F0 m 105 x9.2.2.1 []) (fun x9 => match x9 with | (H, locs, ls, z105, l1_105, x114_105) => lv_has ls 3 [(0, .ref h0), (1, .int l1_105)] ∧ va_S A s.heap H locs ∧ va_D A [(h0, .inr (13, z105)), (qf112, .inl (cf112, 6000, .inl f112)), (qf103, .inl (cf103, 8, .inl f103)), (qf102, .inl (cf102, 2048, .inl f102))] ∧ va_P (dC, dI) vwCl [(h0, .inr (13, z105)), (qf112, .inl (cf112, 6000, .inl f112)), (qf103, .inl (cf103, 8, .inl f103)), (qf102, .inl (cf102, 2048, .inl f102))] H ∧ z105[102]? = some (.ref qf102) ∧ z105[103]? = some (.ref qf103) ∧ z105[112]? = some (.ref qf112) ∧ z105[114]? = some (.int x114_105) ∧ z105[115]? = some (.int v115) ∧ z105.length = 155 ∧ (∀ j : Nat, j ≠ 114 → z105[j]? = zs[j]?) ∧ jn_vm_checkConstant_105 nf a1 v114 v115 f112 f103 f102 l1_105 x114_105 = some w114) ?_ ?_
  · intro x9 hJ9
    obtain ⟨H, locs, ls, z105, l1_105, x114_105⟩ := x9
    obtain ⟨hl, hS, hD, hP, hfh_105_102, hfh_105_103, hfh_105_112, hfh_105_114, hfh_105_115, hlh_105, hrh_105, hsp⟩ := hJ9
    replace hl : lv_has ls 3 [(0, .ref h0), (1, .int l1_105)] := hl
    replace hS : va_S A s.heap H locs := hS
    replace hD : va_D A [(h0, .inr (13, z105)), (qf112, .inl (cf112, 6000, .inl f112)), (qf103, .inl (cf103, 8, .inl f103)), (qf102, .inl (cf102, 2048, .inl f102))] := hD
    replace hP : va_P (dC, dI) vwCl [(h0, .inr (13, z105)), (qf112, .inl (cf112, 6000, .inl f112)), (qf103, .inl (cf103, 8, .inl f103)), (qf102, .inl (cf102, 2048, .inl f102))] H := hP
    replace hsp : jn_vm_checkConstant_105 nf a1 v114 v115 f112 f103 f102 l1_105 x114_105 = some w114 := hsp
    show W _ _ _ _ _ _ _ _ _ _ H locs _ _ _ (F0 m 105 ls [])
    unfold jn_vm_checkConstant_105 at hsp
    try dsimp only at hsp
    refine lv_aload_n hx hb dX13_checkConstant_105 rfl (lv_at hl 0 rfl) ?_
    refine lv_aload_n hx hb dX13_checkConstant_106 rfl (lv_at hl 0 rfl) ?_
    refine va_get (D := (dC, dI)) (ci := 13) (v := .ref qf112) (C := RX13) (T := TX13) (N := 155) hx hb hts uV_h9_X13 hown hK hP 0 rfl rfl 112 (by decide) (hts (.fieldLink RX13 245 "ClassMillModel" "look" "[I") mw_h9_242) (fun _ h9 => h9) hfh_105_112 dX13_checkConstant_107 ?_
    refine lv_iload_n hx hb dX13_checkConstant_110 rfl (lv_at hl 1 rfl) ?_
    refine lv_iconst (v := 3) hx hb dX13_checkConstant_111 (by decide) ?_
    refine lv_iadd hx hb dX13_checkConstant_112 ?_
    obtain ⟨hi_18, hsp⟩ := ox_in hsp
    refine va_iald hx hb hK hP 1 0 rfl rfl (i := (l1_105 + 3)) hi_18 dX13_checkConstant_113 ?_
    refine lv_iconst (v := 3) hx hb dX13_checkConstant_114 (by decide) ?_
    obtain ⟨u7_0, hu_7, hsp⟩ := ox_bind hsp
    try dsimp only at hsp
    have hPc := hP.sub (ws' := [(h0, .inr (13, z105)), (qf103, .inl (cf103, 8, .inl f103)), (qf102, .inl (cf102, 2048, .inl f102)), (qf112, .inl (cf112, 6000, .inl f112))]) [0, 2, 3, 1] rfl
    have hDc := hD.sub (ws' := [(h0, .inr (13, z105)), (qf103, .inl (cf103, 8, .inl f103)), (qf102, .inl (cf102, 2048, .inl f102)), (qf112, .inl (cf112, 6000, .inl f112))]) [0, 2, 3, 1] (by decide) rfl
    have hKc := hK.sub (tys' := [(cf103, .int), (cf102, .int), (cf112, .int)]) [1, 2, 0] rfl
    have hFc := va_free (wc := [(h0, .inr (13, z105)), (qf103, .inl (cf103, 8, .inl f103)), (qf102, .inl (cf102, 2048, .inl f102)), (qf112, .inl (cf112, 6000, .inl f112))]) hD hS hA [0, 2, 3, 1] rfl
    refine va_calli (va_runV (As := [.int (f112 ((l1_105 + 3) : Int32).toNatClampNeg), .int 3]) (rest := []) ⟨hx, hb, hml, hown, hts⟩ (vm_isText l dC dI H.size h0 z105 ((f112 ((l1_105 + 3) : Int32).toNatClampNeg)) 3 qf102 qf103 qf112 v115 cf103 f103 cf102 f102 cf112 f112 nf u7_0 hlh_105 hfh_105_102 hfh_105_103 hfh_105_112 hfh_105_115 hu_7) (cwV 2 hts gv_h9_49 rfl rfl rfl (by decide +kernel) ⟨Nat.le_of_ble_eq_true rfl, Nat.le_of_ble_eq_true rfl⟩) ⟨fun a U g mk q => by obtain ⟨q0, q1, qP, qK, qD⟩ := q; exact ⟨q0, q1, qP, va_K.moved (u := U) (U := U.calling g mk a) (Vm.Alike.refl U.vm) qK, qD⟩, va_recv hKc hPc (ci := 13) (q0 := 0) rfl rfl, fun U hU hW => ⟨rfl, by rw [hU], by rw [hU]; exact hPc, va_K.moved hW.alike hKc, hDc.weaken (fun _ _ _ _ => trivial)⟩⟩ rfl rfl hl.1 rfl (lv_room (Nat.le_of_ble_eq_true rfl)) dX13_checkConstant_115 ⟨Nat.le_of_ble_eq_true rfl, Nat.le_of_ble_eq_true rfl⟩) hS (fun q _ h => hFc q h) hFc ?_
    clear hS
    intro r_19 u t H1 locs ht hvm hw hB hz1 hk1 hS
    obtain ⟨z_7, rfl⟩ : ∃ z, z = u := ⟨_, rfl⟩
    obtain ⟨hP1, hK1, hD1⟩ := hB
    rw [ht] at hP1
    have hK1 := va_K.moved hvm.symm hK1
    try dsimp only at hw
    have hPD := va_join (wr := []) (w1 := [(h0, .inr (13, z_7)), (qf103, .inl (cf103, 8, .inl f103)), (qf102, .inl (cf102, 2048, .inl f102)), (qf112, .inl (cf112, 6000, .inl f112))]) hP hD [0, 2, 3, 1] [] rfl rfl (by decide) (by decide) hk1 hFc hP1 hD1
    clear hP hD
    obtain ⟨hP, hD⟩ := hPD
    replace hK := (hK.sub (tys' := []) [] rfl).app hK1
    clear hPc hDc hKc hFc hP1 hK1 hD1 hz1 hk1 ht hvm
    generalize H1 = H at hP hS ⊢
    replace hP : va_P (dC, dI) vwCl [(h0, .inr (13, z_7)), (qf103, .inl (cf103, 8, .inl f103)), (qf102, .inl (cf102, 2048, .inl f102)), (qf112, .inl (cf112, 6000, .inl f112))] H := hP
    replace hD : va_D A [(h0, .inr (13, z_7)), (qf103, .inl (cf103, 8, .inl f103)), (qf102, .inl (cf102, 2048, .inl f102)), (qf112, .inl (cf112, 6000, .inl f112))] := hD
    replace hK : va_K (dC, dI) vwCl [(cf103, .int), (cf102, .int), (cf112, .int)] s := hK
    obtain ⟨hwa_7, hln_7, hre_7⟩ := hw
    have hfk_7_102 : z_7[102]? = some (.ref qf102) := (hre_7 102 ).trans (hfh_105_102)
    have hfk_7_103 : z_7[103]? = some (.ref qf103) := (hre_7 103 ).trans (hfh_105_103)
    have hfk_7_112 : z_7[112]? = some (.ref qf112) := (hre_7 112 ).trans (hfh_105_112)
    have hfk_7_114 : z_7[114]? = some (.int x114_105) := (hre_7 114 ).trans (hfh_105_114)
    have hfk_7_115 : z_7[115]? = some (.int v115) := (hre_7 115 ).trans (hfh_105_115)
    have hrq_7 : ∀ j : Nat, j ≠ 114 → z_7[j]? = zs[j]? := fun j g114 => (hre_7 j ).trans (hrh_105 j g114)
    obtain ⟨rfl, hz_7⟩ := hwa_7
    rcases hz_7 with rfl | rfl
    · rw [if_pos rfl] at hsp
      refine lv_if_ne (tgt := 128) hx hb dX13_checkConstant_118 (by decide) (fun c_20 => (show False by revert c_20; decide).elim) (fun c_20 => ?_)
      refine lv_aload_n hx hb dX13_checkConstant_121 rfl (lv_at hl 0 rfl) ?_
      refine lv_iload_n hx hb dX13_checkConstant_122 rfl (lv_at hl 1 rfl) ?_
      refine lv_iconst (v := 3) hx hb dX13_checkConstant_123 (by decide) ?_
      refine lv_iadd hx hb dX13_checkConstant_124 ?_
      obtain ⟨u8_0, hu_8, hsp⟩ := ox_bind hsp
      try dsimp only at hsp
      have hPc := hP.sub (ws' := [(h0, .inr (13, z_7))]) [0] rfl
      have hDc := hD.sub (ws' := [(h0, .inr (13, z_7))]) [0] (by decide) rfl
      have hKc := hK.sub (tys' := []) [] rfl
      have hFc := va_free (wc := [(h0, .inr (13, z_7))]) hD hS hA [0] rfl
      refine va_callv (va_runV (As := [.int (l1_105 + 3)]) (rest := []) ⟨hx, hb, hml, hown, hts⟩ (tm_unfit l dC dI H.size h0 z_7 ((l1_105 + 3)) x114_105 nf u8_0 hln_7 hfk_7_114 hu_8) (cwV 1 hts gv_h9_48 rfl rfl rfl (by decide +kernel) ⟨Nat.le_of_ble_eq_true rfl, Nat.le_of_ble_eq_true rfl⟩) ⟨fun a U g mk q => by obtain ⟨q0, q1, qP, qK, qD⟩ := q; exact ⟨q0, q1, qP, va_K.moved (u := U) (U := U.calling g mk a) (Vm.Alike.refl U.vm) qK, qD⟩, va_recv hKc hPc (ci := 13) (q0 := 0) rfl rfl, fun U hU hW => ⟨rfl, by rw [hU], by rw [hU]; exact hPc, va_K.moved hW.alike hKc, hDc.weaken (fun _ _ _ _ => trivial)⟩⟩ rfl rfl hl.1 rfl (lv_room (Nat.le_of_ble_eq_true rfl)) dX13_checkConstant_125 ⟨Nat.le_of_ble_eq_true rfl, Nat.le_of_ble_eq_true rfl⟩) hS (fun q _ h => hFc q h) hFc ?_
      clear hS
      intro u t H1 locs ht hvm hw hB hz1 hk1 hS
      obtain ⟨z_8, rfl⟩ : ∃ z, z = u := ⟨_, rfl⟩
      obtain ⟨hP1, hK1, hD1⟩ := hB
      rw [ht] at hP1
      have hK1 := va_K.moved hvm.symm hK1
      try dsimp only at hw
      have hPD := va_join (wr := [(qf103, .inl (cf103, 8, .inl f103)), (qf102, .inl (cf102, 2048, .inl f102)), (qf112, .inl (cf112, 6000, .inl f112))]) (w1 := [(h0, .inr (13, z_8))]) hP hD [0] [1, 2, 3] rfl rfl (by decide) (by decide) hk1 hFc hP1 hD1
      clear hP hD
      obtain ⟨hP, hD⟩ := hPD
      replace hK := (hK.sub (tys' := [(cf103, .int), (cf102, .int), (cf112, .int)]) [0, 1, 2] rfl).app hK1
      clear hPc hDc hKc hFc hP1 hK1 hD1 hz1 hk1 ht hvm
      generalize H1 = H at hP hS ⊢
      replace hP : va_P (dC, dI) vwCl [(qf103, .inl (cf103, 8, .inl f103)), (qf102, .inl (cf102, 2048, .inl f102)), (qf112, .inl (cf112, 6000, .inl f112)), (h0, .inr (13, z_8))] H := hP
      replace hD : va_D A [(qf103, .inl (cf103, 8, .inl f103)), (qf102, .inl (cf102, 2048, .inl f102)), (qf112, .inl (cf112, 6000, .inl f112)), (h0, .inr (13, z_8))] := hD
      replace hK : va_K (dC, dI) vwCl [(cf103, .int), (cf102, .int), (cf112, .int)] s := hK
      obtain ⟨hwa_8, hln_8, hre_8, hch_8_114⟩ := hw
      have hfk_8_102 : z_8[102]? = some (.ref qf102) := (hre_8 102 (by decide)).trans (hfk_7_102)
      have hfk_8_103 : z_8[103]? = some (.ref qf103) := (hre_8 103 (by decide)).trans (hfk_7_103)
      have hfk_8_112 : z_8[112]? = some (.ref qf112) := (hre_8 112 (by decide)).trans (hfk_7_112)
      have hfk_8_115 : z_8[115]? = some (.int v115) := (hre_8 115 (by decide)).trans (hfk_7_115)
      have hrq_8 : ∀ j : Nat, j ≠ 114 → z_8[j]? = zs[j]? := fun j g114 => (hre_8 j g114).trans (hrq_7 j g114)
      have hr0 := Option.some.inj hsp
      clear hsp
      subst hr0
      have hP9 := hP.sub (ws' := [(h0, .inr (13, z_8)), (qf112, .inl (cf112, 6000, .inl f112)), (qf103, .inl (cf103, 8, .inl f103)), (qf102, .inl (cf102, 2048, .inl f102))]) [3, 2, 0, 1] rfl
      have hD9 := hD.sub (ws' := [(h0, .inr (13, z_8)), (qf112, .inl (cf112, 6000, .inl f112)), (qf103, .inl (cf103, 8, .inl f103)), (qf102, .inl (cf102, 2048, .inl f102))]) [3, 2, 0, 1] (by decide) rfl
      have hK9 := hK.sub (tys' := [(cf112, .int), (cf103, .int), (cf102, .int)]) [2, 0, 1] rfl
      exact W.vret hx hb hr (fun t ht hW => ⟨⟨(z_8), rfl, ⟨trivial, hln_8, hrq_8, hch_8_114⟩, by rw [ht]; exact hP9, va_K.moved hW.alike hK9, hD9⟩, hS.F ht⟩) hS.2.2 dX13_checkConstant_128
    · rw [if_neg (by decide)] at hsp
      refine lv_if_ne (tgt := 128) hx hb dX13_checkConstant_118 (by decide) (fun c_21 => ?_) (fun c_21 => (show False by revert c_21; decide).elim)
      have hr0 := Option.some.inj hsp
      clear hsp
      subst hr0
      have hP9 := hP.sub (ws' := [(h0, .inr (13, z_7)), (qf112, .inl (cf112, 6000, .inl f112)), (qf103, .inl (cf103, 8, .inl f103)), (qf102, .inl (cf102, 2048, .inl f102))]) [0, 3, 1, 2] rfl
      have hD9 := hD.sub (ws' := [(h0, .inr (13, z_7)), (qf112, .inl (cf112, 6000, .inl f112)), (qf103, .inl (cf103, 8, .inl f103)), (qf102, .inl (cf102, 2048, .inl f102))]) [0, 3, 1, 2] (by decide) rfl
      have hK9 := hK.sub (tys' := [(cf112, .int), (cf103, .int), (cf102, .int)]) [2, 0, 1] rfl
      exact W.vret hx hb hr (fun t ht hW => ⟨⟨(z_7), rfl, ⟨trivial, hln_7, hrq_7, hfk_7_114⟩, by rw [ht]; exact hP9, va_K.moved hW.alike hK9, hD9⟩, hS.F ht⟩) hS.2.2 dX13_checkConstant_128
  intro hj_105
  refine jn_use (α := Heap × List Loc × Array Slot × List Value × Int32 × Int32) (fun x9 => x9.1) (fun x9 => x9.2.1) (fun x9 => F0 m 82 x9.2.2.1 []) (fun x9 => match x9 with | (H, locs, ls, z82, l1_82, x114_82) => lv_has ls 3 [(0, .ref h0), (1, .int l1_82)] ∧ va_S A s.heap H locs ∧ va_D A [(h0, .inr (13, z82)), (qf112, .inl (cf112, 6000, .inl f112)), (qf103, .inl (cf103, 8, .inl f103)), (qf102, .inl (cf102, 2048, .inl f102))] ∧ va_P (dC, dI) vwCl [(h0, .inr (13, z82)), (qf112, .inl (cf112, 6000, .inl f112)), (qf103, .inl (cf103, 8, .inl f103)), (qf102, .inl (cf102, 2048, .inl f102))] H ∧ z82[102]? = some (.ref qf102) ∧ z82[103]? = some (.ref qf103) ∧ z82[112]? = some (.ref qf112) ∧ z82[114]? = some (.int x114_82) ∧ z82[115]? = some (.int v115) ∧ z82.length = 155 ∧ (∀ j : Nat, j ≠ 114 → z82[j]? = zs[j]?) ∧ jn_vm_checkConstant_82 nf a1 v114 v115 f112 f103 f102 l1_82 x114_82 = some w114) ?_ ?_
  · intro x9 hJ9
    obtain ⟨H, locs, ls, z82, l1_82, x114_82⟩ := x9
    obtain ⟨hl, hS, hD, hP, hfh_82_102, hfh_82_103, hfh_82_112, hfh_82_114, hfh_82_115, hlh_82, hrh_82, hsp⟩ := hJ9
    replace hl : lv_has ls 3 [(0, .ref h0), (1, .int l1_82)] := hl
    replace hS : va_S A s.heap H locs := hS
    replace hD : va_D A [(h0, .inr (13, z82)), (qf112, .inl (cf112, 6000, .inl f112)), (qf103, .inl (cf103, 8, .inl f103)), (qf102, .inl (cf102, 2048, .inl f102))] := hD
    replace hP : va_P (dC, dI) vwCl [(h0, .inr (13, z82)), (qf112, .inl (cf112, 6000, .inl f112)), (qf103, .inl (cf103, 8, .inl f103)), (qf102, .inl (cf102, 2048, .inl f102))] H := hP
    replace hsp : jn_vm_checkConstant_82 nf a1 v114 v115 f112 f103 f102 l1_82 x114_82 = some w114 := hsp
    show W _ _ _ _ _ _ _ _ _ _ H locs _ _ _ (F0 m 82 ls [])
    unfold jn_vm_checkConstant_82 at hsp
    try dsimp only at hsp
    refine lv_aload_n hx hb dX13_checkConstant_82 rfl (lv_at hl 0 rfl) ?_
    refine lv_aload_n hx hb dX13_checkConstant_83 rfl (lv_at hl 0 rfl) ?_
    refine va_get (D := (dC, dI)) (ci := 13) (v := .ref qf112) (C := RX13) (T := TX13) (N := 155) hx hb hts uV_h9_X13 hown hK hP 0 rfl rfl 112 (by decide) (hts (.fieldLink RX13 245 "ClassMillModel" "look" "[I") mw_h9_242) (fun _ h9 => h9) hfh_82_112 dX13_checkConstant_84 ?_
    refine lv_iload_n hx hb dX13_checkConstant_87 rfl (lv_at hl 1 rfl) ?_
    refine lv_iconst (v := 2) hx hb dX13_checkConstant_88 (by decide) ?_
    refine lv_iadd hx hb dX13_checkConstant_89 ?_
    obtain ⟨hi_14, hsp⟩ := ox_in hsp
    refine va_iald hx hb hK hP 1 0 rfl rfl (i := (l1_82 + 2)) hi_14 dX13_checkConstant_90 ?_
    refine lv_iconst (v := 0) hx hb dX13_checkConstant_91 (by decide) ?_
    obtain ⟨u5_0, hu_5, hsp⟩ := ox_bind hsp
    try dsimp only at hsp
    have hPc := hP.sub (ws' := [(h0, .inr (13, z82)), (qf103, .inl (cf103, 8, .inl f103)), (qf102, .inl (cf102, 2048, .inl f102)), (qf112, .inl (cf112, 6000, .inl f112))]) [0, 2, 3, 1] rfl
    have hDc := hD.sub (ws' := [(h0, .inr (13, z82)), (qf103, .inl (cf103, 8, .inl f103)), (qf102, .inl (cf102, 2048, .inl f102)), (qf112, .inl (cf112, 6000, .inl f112))]) [0, 2, 3, 1] (by decide) rfl
    have hKc := hK.sub (tys' := [(cf103, .int), (cf102, .int), (cf112, .int)]) [1, 2, 0] rfl
    have hFc := va_free (wc := [(h0, .inr (13, z82)), (qf103, .inl (cf103, 8, .inl f103)), (qf102, .inl (cf102, 2048, .inl f102)), (qf112, .inl (cf112, 6000, .inl f112))]) hD hS hA [0, 2, 3, 1] rfl
    refine va_calli (va_runV (As := [.int (f112 ((l1_82 + 2) : Int32).toNatClampNeg), .int 0]) (rest := []) ⟨hx, hb, hml, hown, hts⟩ (vm_isText l dC dI H.size h0 z82 ((f112 ((l1_82 + 2) : Int32).toNatClampNeg)) 0 qf102 qf103 qf112 v115 cf103 f103 cf102 f102 cf112 f112 nf u5_0 hlh_82 hfh_82_102 hfh_82_103 hfh_82_112 hfh_82_115 hu_5) (cwV 2 hts gv_h9_49 rfl rfl rfl (by decide +kernel) ⟨Nat.le_of_ble_eq_true rfl, Nat.le_of_ble_eq_true rfl⟩) ⟨fun a U g mk q => by obtain ⟨q0, q1, qP, qK, qD⟩ := q; exact ⟨q0, q1, qP, va_K.moved (u := U) (U := U.calling g mk a) (Vm.Alike.refl U.vm) qK, qD⟩, va_recv hKc hPc (ci := 13) (q0 := 0) rfl rfl, fun U hU hW => ⟨rfl, by rw [hU], by rw [hU]; exact hPc, va_K.moved hW.alike hKc, hDc.weaken (fun _ _ _ _ => trivial)⟩⟩ rfl rfl hl.1 rfl (lv_room (Nat.le_of_ble_eq_true rfl)) dX13_checkConstant_92 ⟨Nat.le_of_ble_eq_true rfl, Nat.le_of_ble_eq_true rfl⟩) hS (fun q _ h => hFc q h) hFc ?_
    clear hS
    intro r_15 u t H1 locs ht hvm hw hB hz1 hk1 hS
    obtain ⟨z_5, rfl⟩ : ∃ z, z = u := ⟨_, rfl⟩
    obtain ⟨hP1, hK1, hD1⟩ := hB
    rw [ht] at hP1
    have hK1 := va_K.moved hvm.symm hK1
    try dsimp only at hw
    have hPD := va_join (wr := []) (w1 := [(h0, .inr (13, z_5)), (qf103, .inl (cf103, 8, .inl f103)), (qf102, .inl (cf102, 2048, .inl f102)), (qf112, .inl (cf112, 6000, .inl f112))]) hP hD [0, 2, 3, 1] [] rfl rfl (by decide) (by decide) hk1 hFc hP1 hD1
    clear hP hD
    obtain ⟨hP, hD⟩ := hPD
    replace hK := (hK.sub (tys' := []) [] rfl).app hK1
    clear hPc hDc hKc hFc hP1 hK1 hD1 hz1 hk1 ht hvm
    generalize H1 = H at hP hS ⊢
    replace hP : va_P (dC, dI) vwCl [(h0, .inr (13, z_5)), (qf103, .inl (cf103, 8, .inl f103)), (qf102, .inl (cf102, 2048, .inl f102)), (qf112, .inl (cf112, 6000, .inl f112))] H := hP
    replace hD : va_D A [(h0, .inr (13, z_5)), (qf103, .inl (cf103, 8, .inl f103)), (qf102, .inl (cf102, 2048, .inl f102)), (qf112, .inl (cf112, 6000, .inl f112))] := hD
    replace hK : va_K (dC, dI) vwCl [(cf103, .int), (cf102, .int), (cf112, .int)] s := hK
    obtain ⟨hwa_5, hln_5, hre_5⟩ := hw
    have hfk_5_102 : z_5[102]? = some (.ref qf102) := (hre_5 102 ).trans (hfh_82_102)
    have hfk_5_103 : z_5[103]? = some (.ref qf103) := (hre_5 103 ).trans (hfh_82_103)
    have hfk_5_112 : z_5[112]? = some (.ref qf112) := (hre_5 112 ).trans (hfh_82_112)
    have hfk_5_114 : z_5[114]? = some (.int x114_82) := (hre_5 114 ).trans (hfh_82_114)
    have hfk_5_115 : z_5[115]? = some (.int v115) := (hre_5 115 ).trans (hfh_82_115)
    have hrq_5 : ∀ j : Nat, j ≠ 114 → z_5[j]? = zs[j]? := fun j g114 => (hre_5 j ).trans (hrh_82 j g114)
    obtain ⟨rfl, hz_5⟩ := hwa_5
    rcases hz_5 with rfl | rfl
    · rw [if_pos rfl] at hsp
      refine lv_if_ne (tgt := 105) hx hb dX13_checkConstant_95 (by decide) (fun c_16 => (show False by revert c_16; decide).elim) (fun c_16 => ?_)
      refine lv_aload_n hx hb dX13_checkConstant_98 rfl (lv_at hl 0 rfl) ?_
      refine lv_iload_n hx hb dX13_checkConstant_99 rfl (lv_at hl 1 rfl) ?_
      refine lv_iconst (v := 2) hx hb dX13_checkConstant_100 (by decide) ?_
      refine lv_iadd hx hb dX13_checkConstant_101 ?_
      obtain ⟨u6_0, hu_6, hsp⟩ := ox_bind hsp
      try dsimp only at hsp
      have hPc := hP.sub (ws' := [(h0, .inr (13, z_5))]) [0] rfl
      have hDc := hD.sub (ws' := [(h0, .inr (13, z_5))]) [0] (by decide) rfl
      have hKc := hK.sub (tys' := []) [] rfl
      have hFc := va_free (wc := [(h0, .inr (13, z_5))]) hD hS hA [0] rfl
      refine va_callv (va_runV (As := [.int (l1_82 + 2)]) (rest := []) ⟨hx, hb, hml, hown, hts⟩ (tm_unfit l dC dI H.size h0 z_5 ((l1_82 + 2)) x114_82 nf u6_0 hln_5 hfk_5_114 hu_6) (cwV 1 hts gv_h9_48 rfl rfl rfl (by decide +kernel) ⟨Nat.le_of_ble_eq_true rfl, Nat.le_of_ble_eq_true rfl⟩) ⟨fun a U g mk q => by obtain ⟨q0, q1, qP, qK, qD⟩ := q; exact ⟨q0, q1, qP, va_K.moved (u := U) (U := U.calling g mk a) (Vm.Alike.refl U.vm) qK, qD⟩, va_recv hKc hPc (ci := 13) (q0 := 0) rfl rfl, fun U hU hW => ⟨rfl, by rw [hU], by rw [hU]; exact hPc, va_K.moved hW.alike hKc, hDc.weaken (fun _ _ _ _ => trivial)⟩⟩ rfl rfl hl.1 rfl (lv_room (Nat.le_of_ble_eq_true rfl)) dX13_checkConstant_102 ⟨Nat.le_of_ble_eq_true rfl, Nat.le_of_ble_eq_true rfl⟩) hS (fun q _ h => hFc q h) hFc ?_
      clear hS
      intro u t H1 locs ht hvm hw hB hz1 hk1 hS
      obtain ⟨z_6, rfl⟩ : ∃ z, z = u := ⟨_, rfl⟩
      obtain ⟨hP1, hK1, hD1⟩ := hB
      rw [ht] at hP1
      have hK1 := va_K.moved hvm.symm hK1
      try dsimp only at hw
      have hPD := va_join (wr := [(qf103, .inl (cf103, 8, .inl f103)), (qf102, .inl (cf102, 2048, .inl f102)), (qf112, .inl (cf112, 6000, .inl f112))]) (w1 := [(h0, .inr (13, z_6))]) hP hD [0] [1, 2, 3] rfl rfl (by decide) (by decide) hk1 hFc hP1 hD1
      clear hP hD
      obtain ⟨hP, hD⟩ := hPD
      replace hK := (hK.sub (tys' := [(cf103, .int), (cf102, .int), (cf112, .int)]) [0, 1, 2] rfl).app hK1
      clear hPc hDc hKc hFc hP1 hK1 hD1 hz1 hk1 ht hvm
      generalize H1 = H at hP hS ⊢
      replace hP : va_P (dC, dI) vwCl [(qf103, .inl (cf103, 8, .inl f103)), (qf102, .inl (cf102, 2048, .inl f102)), (qf112, .inl (cf112, 6000, .inl f112)), (h0, .inr (13, z_6))] H := hP
      replace hD : va_D A [(qf103, .inl (cf103, 8, .inl f103)), (qf102, .inl (cf102, 2048, .inl f102)), (qf112, .inl (cf112, 6000, .inl f112)), (h0, .inr (13, z_6))] := hD
      replace hK : va_K (dC, dI) vwCl [(cf103, .int), (cf102, .int), (cf112, .int)] s := hK
      obtain ⟨hwa_6, hln_6, hre_6, hch_6_114⟩ := hw
      have hfk_6_102 : z_6[102]? = some (.ref qf102) := (hre_6 102 (by decide)).trans (hfk_5_102)
      have hfk_6_103 : z_6[103]? = some (.ref qf103) := (hre_6 103 (by decide)).trans (hfk_5_103)
      have hfk_6_112 : z_6[112]? = some (.ref qf112) := (hre_6 112 (by decide)).trans (hfk_5_112)
      have hfk_6_115 : z_6[115]? = some (.int v115) := (hre_6 115 (by decide)).trans (hfk_5_115)
      have hrq_6 : ∀ j : Nat, j ≠ 114 → z_6[j]? = zs[j]? := fun j g114 => (hre_6 j g114).trans (hrq_5 j g114)
      exact hj_105 (H, locs, ls, z_6, l1_82, u6_0) ⟨lv_sub hl [0, 1] rfl, hS, hD.sub (ws' := [(h0, .inr (13, z_6)), (qf112, .inl (cf112, 6000, .inl f112)), (qf103, .inl (cf103, 8, .inl f103)), (qf102, .inl (cf102, 2048, .inl f102))]) [3, 2, 0, 1] (by decide) rfl, hP.sub (ws' := [(h0, .inr (13, z_6)), (qf112, .inl (cf112, 6000, .inl f112)), (qf103, .inl (cf103, 8, .inl f103)), (qf102, .inl (cf102, 2048, .inl f102))]) [3, 2, 0, 1] rfl, hfk_6_102, hfk_6_103, hfk_6_112, hch_6_114, hfk_6_115, hln_6, hrq_6, hsp⟩
    · rw [if_neg (by decide)] at hsp
      refine lv_if_ne (tgt := 105) hx hb dX13_checkConstant_95 (by decide) (fun c_17 => ?_) (fun c_17 => (show False by revert c_17; decide).elim)
      exact hj_105 (H, locs, ls, z_5, l1_82, x114_82) ⟨lv_sub hl [0, 1] rfl, hS, hD.sub (ws' := [(h0, .inr (13, z_5)), (qf112, .inl (cf112, 6000, .inl f112)), (qf103, .inl (cf103, 8, .inl f103)), (qf102, .inl (cf102, 2048, .inl f102))]) [0, 3, 1, 2] (by decide) rfl, hP.sub (ws' := [(h0, .inr (13, z_5)), (qf112, .inl (cf112, 6000, .inl f112)), (qf103, .inl (cf103, 8, .inl f103)), (qf102, .inl (cf102, 2048, .inl f102))]) [0, 3, 1, 2] rfl, hfk_5_102, hfk_5_103, hfk_5_112, hfk_5_114, hfk_5_115, hln_5, hrq_5, hsp⟩
  intro hj_82
  refine jn_use (α := Heap × List Loc × Array Slot × List Value × Int32 × Int32) (fun x9 => x9.1) (fun x9 => x9.2.1) (fun x9 => F0 m 75 x9.2.2.1 []) (fun x9 => match x9 with | (H, locs, ls, z75, l1_75, x114_75) => lv_has ls 3 [(0, .ref h0), (1, .int l1_75)] ∧ va_S A s.heap H locs ∧ va_D A [(h0, .inr (13, z75)), (qf112, .inl (cf112, 6000, .inl f112)), (qf103, .inl (cf103, 8, .inl f103)), (qf102, .inl (cf102, 2048, .inl f102))] ∧ va_P (dC, dI) vwCl [(h0, .inr (13, z75)), (qf112, .inl (cf112, 6000, .inl f112)), (qf103, .inl (cf103, 8, .inl f103)), (qf102, .inl (cf102, 2048, .inl f102))] H ∧ z75[102]? = some (.ref qf102) ∧ z75[103]? = some (.ref qf103) ∧ z75[112]? = some (.ref qf112) ∧ z75[114]? = some (.int x114_75) ∧ z75[115]? = some (.int v115) ∧ z75.length = 155 ∧ (∀ j : Nat, j ≠ 114 → z75[j]? = zs[j]?) ∧ jn_vm_checkConstant_75 nf a1 v114 v115 f112 f103 f102 l1_75 x114_75 = some w114) ?_ ?_
  · intro x9 hJ9
    obtain ⟨H, locs, ls, z75, l1_75, x114_75⟩ := x9
    obtain ⟨hl, hS, hD, hP, hfh_75_102, hfh_75_103, hfh_75_112, hfh_75_114, hfh_75_115, hlh_75, hrh_75, hsp⟩ := hJ9
    replace hl : lv_has ls 3 [(0, .ref h0), (1, .int l1_75)] := hl
    replace hS : va_S A s.heap H locs := hS
    replace hD : va_D A [(h0, .inr (13, z75)), (qf112, .inl (cf112, 6000, .inl f112)), (qf103, .inl (cf103, 8, .inl f103)), (qf102, .inl (cf102, 2048, .inl f102))] := hD
    replace hP : va_P (dC, dI) vwCl [(h0, .inr (13, z75)), (qf112, .inl (cf112, 6000, .inl f112)), (qf103, .inl (cf103, 8, .inl f103)), (qf102, .inl (cf102, 2048, .inl f102))] H := hP
    replace hsp : jn_vm_checkConstant_75 nf a1 v114 v115 f112 f103 f102 l1_75 x114_75 = some w114 := hsp
    show W _ _ _ _ _ _ _ _ _ _ H locs _ _ _ (F0 m 75 ls [])
    unfold jn_vm_checkConstant_75 at hsp
    try dsimp only at hsp
    refine lv_aload_n hx hb dX13_checkConstant_75 rfl (lv_at hl 0 rfl) ?_
    refine lv_iload_n hx hb dX13_checkConstant_76 rfl (lv_at hl 1 rfl) ?_
    refine lv_iconst (v := 1) hx hb dX13_checkConstant_77 (by decide) ?_
    refine lv_iadd hx hb dX13_checkConstant_78 ?_
    obtain ⟨u4_0, hu_4, hsp⟩ := ox_bind hsp
    try dsimp only at hsp
    have hPc := hP.sub (ws' := [(h0, .inr (13, z75))]) [0] rfl
    have hDc := hD.sub (ws' := [(h0, .inr (13, z75))]) [0] (by decide) rfl
    have hKc := hK.sub (tys' := []) [] rfl
    have hFc := va_free (wc := [(h0, .inr (13, z75))]) hD hS hA [0] rfl
    refine va_callv (va_runV (As := [.int (l1_75 + 1)]) (rest := []) ⟨hx, hb, hml, hown, hts⟩ (tm_unfit l dC dI H.size h0 z75 ((l1_75 + 1)) x114_75 nf u4_0 hlh_75 hfh_75_114 hu_4) (cwV 1 hts gv_h9_48 rfl rfl rfl (by decide +kernel) ⟨Nat.le_of_ble_eq_true rfl, Nat.le_of_ble_eq_true rfl⟩) ⟨fun a U g mk q => by obtain ⟨q0, q1, qP, qK, qD⟩ := q; exact ⟨q0, q1, qP, va_K.moved (u := U) (U := U.calling g mk a) (Vm.Alike.refl U.vm) qK, qD⟩, va_recv hKc hPc (ci := 13) (q0 := 0) rfl rfl, fun U hU hW => ⟨rfl, by rw [hU], by rw [hU]; exact hPc, va_K.moved hW.alike hKc, hDc.weaken (fun _ _ _ _ => trivial)⟩⟩ rfl rfl hl.1 rfl (lv_room (Nat.le_of_ble_eq_true rfl)) dX13_checkConstant_79 ⟨Nat.le_of_ble_eq_true rfl, Nat.le_of_ble_eq_true rfl⟩) hS (fun q _ h => hFc q h) hFc ?_
    clear hS
    intro u t H1 locs ht hvm hw hB hz1 hk1 hS
    obtain ⟨z_4, rfl⟩ : ∃ z, z = u := ⟨_, rfl⟩
    obtain ⟨hP1, hK1, hD1⟩ := hB
    rw [ht] at hP1
    have hK1 := va_K.moved hvm.symm hK1
    try dsimp only at hw
    have hPD := va_join (wr := [(qf112, .inl (cf112, 6000, .inl f112)), (qf103, .inl (cf103, 8, .inl f103)), (qf102, .inl (cf102, 2048, .inl f102))]) (w1 := [(h0, .inr (13, z_4))]) hP hD [0] [1, 2, 3] rfl rfl (by decide) (by decide) hk1 hFc hP1 hD1
    clear hP hD
    obtain ⟨hP, hD⟩ := hPD
    replace hK := (hK.sub (tys' := [(cf112, .int), (cf103, .int), (cf102, .int)]) [0, 1, 2] rfl).app hK1
    clear hPc hDc hKc hFc hP1 hK1 hD1 hz1 hk1 ht hvm
    generalize H1 = H at hP hS ⊢
    replace hP : va_P (dC, dI) vwCl [(qf112, .inl (cf112, 6000, .inl f112)), (qf103, .inl (cf103, 8, .inl f103)), (qf102, .inl (cf102, 2048, .inl f102)), (h0, .inr (13, z_4))] H := hP
    replace hD : va_D A [(qf112, .inl (cf112, 6000, .inl f112)), (qf103, .inl (cf103, 8, .inl f103)), (qf102, .inl (cf102, 2048, .inl f102)), (h0, .inr (13, z_4))] := hD
    replace hK : va_K (dC, dI) vwCl [(cf112, .int), (cf103, .int), (cf102, .int)] s := hK
    obtain ⟨hwa_4, hln_4, hre_4, hch_4_114⟩ := hw
    have hfk_4_102 : z_4[102]? = some (.ref qf102) := (hre_4 102 (by decide)).trans (hfh_75_102)
    have hfk_4_103 : z_4[103]? = some (.ref qf103) := (hre_4 103 (by decide)).trans (hfh_75_103)
    have hfk_4_112 : z_4[112]? = some (.ref qf112) := (hre_4 112 (by decide)).trans (hfh_75_112)
    have hfk_4_115 : z_4[115]? = some (.int v115) := (hre_4 115 (by decide)).trans (hfh_75_115)
    have hrq_4 : ∀ j : Nat, j ≠ 114 → z_4[j]? = zs[j]? := fun j g114 => (hre_4 j g114).trans (hrh_75 j g114)
    exact hj_82 (H, locs, ls, z_4, l1_75, u4_0) ⟨lv_sub hl [0, 1] rfl, hS, hD.sub (ws' := [(h0, .inr (13, z_4)), (qf112, .inl (cf112, 6000, .inl f112)), (qf103, .inl (cf103, 8, .inl f103)), (qf102, .inl (cf102, 2048, .inl f102))]) [3, 0, 1, 2] (by decide) rfl, hP.sub (ws' := [(h0, .inr (13, z_4)), (qf112, .inl (cf112, 6000, .inl f112)), (qf103, .inl (cf103, 8, .inl f103)), (qf102, .inl (cf102, 2048, .inl f102))]) [3, 0, 1, 2] rfl, hfk_4_102, hfk_4_103, hfk_4_112, hch_4_114, hfk_4_115, hln_4, hrq_4, hsp⟩
  intro hj_75
  refine jn_use (α := Heap × List Loc × Array Slot × List Value × Int32 × Int32) (fun x9 => x9.1) (fun x9 => x9.2.1) (fun x9 => F0 m 33 x9.2.2.1 []) (fun x9 => match x9 with | (H, locs, ls, z33, l1_33, x114_33) => lv_has ls 3 [(0, .ref h0), (1, .int l1_33)] ∧ va_S A s.heap H locs ∧ va_D A [(h0, .inr (13, z33)), (qf112, .inl (cf112, 6000, .inl f112)), (qf103, .inl (cf103, 8, .inl f103)), (qf102, .inl (cf102, 2048, .inl f102))] ∧ va_P (dC, dI) vwCl [(h0, .inr (13, z33)), (qf112, .inl (cf112, 6000, .inl f112)), (qf103, .inl (cf103, 8, .inl f103)), (qf102, .inl (cf102, 2048, .inl f102))] H ∧ z33[102]? = some (.ref qf102) ∧ z33[103]? = some (.ref qf103) ∧ z33[112]? = some (.ref qf112) ∧ z33[114]? = some (.int x114_33) ∧ z33[115]? = some (.int v115) ∧ z33.length = 155 ∧ (∀ j : Nat, j ≠ 114 → z33[j]? = zs[j]?) ∧ jn_vm_checkConstant_33 nf a1 v114 v115 f112 f103 f102 l1_33 x114_33 = some w114) ?_ ?_
  · intro x9 hJ9
    obtain ⟨H, locs, ls, z33, l1_33, x114_33⟩ := x9
    obtain ⟨hl, hS, hD, hP, hfh_33_102, hfh_33_103, hfh_33_112, hfh_33_114, hfh_33_115, hlh_33, hrh_33, hsp⟩ := hJ9
    replace hl : lv_has ls 3 [(0, .ref h0), (1, .int l1_33)] := hl
    replace hS : va_S A s.heap H locs := hS
    replace hD : va_D A [(h0, .inr (13, z33)), (qf112, .inl (cf112, 6000, .inl f112)), (qf103, .inl (cf103, 8, .inl f103)), (qf102, .inl (cf102, 2048, .inl f102))] := hD
    replace hP : va_P (dC, dI) vwCl [(h0, .inr (13, z33)), (qf112, .inl (cf112, 6000, .inl f112)), (qf103, .inl (cf103, 8, .inl f103)), (qf102, .inl (cf102, 2048, .inl f102))] H := hP
    replace hsp : jn_vm_checkConstant_33 nf a1 v114 v115 f112 f103 f102 l1_33 x114_33 = some w114 := hsp
    show W _ _ _ _ _ _ _ _ _ _ H locs _ _ _ (F0 m 33 ls [])
    unfold jn_vm_checkConstant_33 at hsp
    try dsimp only at hsp
    refine lv_aload_n hx hb dX13_checkConstant_33 rfl (lv_at hl 0 rfl) ?_
    refine va_get (D := (dC, dI)) (ci := 13) (v := .ref qf112) (C := RX13) (T := TX13) (N := 155) hx hb hts uV_h9_X13 hown hK hP 0 rfl rfl 112 (by decide) (hts (.fieldLink RX13 245 "ClassMillModel" "look" "[I") mw_h9_242) (fun _ h9 => h9) hfh_33_112 dX13_checkConstant_34 ?_
    refine lv_iload_n hx hb dX13_checkConstant_37 rfl (lv_at hl 1 rfl) ?_
    obtain ⟨hi_7, hsp⟩ := ox_in hsp
    refine va_iald hx hb hK hP 1 0 rfl rfl (i := l1_33) hi_7 dX13_checkConstant_38 ?_
    refine lv_iconst (v := 4) hx hb dX13_checkConstant_39 (by decide) ?_
    refine lv_icmp_eq (tgt := 44) hx hb dX13_checkConstant_40 (by decide) (fun c_8 => ?_) (fun c_8 => ?_)
    · rw [if_pos c_8] at hsp
      refine lv_aload_n hx hb dX13_checkConstant_44 rfl (lv_at hl 0 rfl) ?_
      refine lv_aload_n hx hb dX13_checkConstant_45 rfl (lv_at hl 0 rfl) ?_
      refine va_get (D := (dC, dI)) (ci := 13) (v := .int v115) (C := RX13) (T := TX13) (N := 155) hx hb hts uV_h9_X13 hown hK hP 0 rfl rfl 115 (by decide) (hts (.fieldLink RX13 788 "ClassMillModel" "into" "I") mw_h9_241) (fun _ h9 => h9) hfh_33_115 dX13_checkConstant_46 ?_
      refine lv_aload_n hx hb dX13_checkConstant_49 rfl (lv_at hl 0 rfl) ?_
      refine va_get (D := (dC, dI)) (ci := 13) (v := .ref qf112) (C := RX13) (T := TX13) (N := 155) hx hb hts uV_h9_X13 hown hK hP 0 rfl rfl 112 (by decide) (hts (.fieldLink RX13 245 "ClassMillModel" "look" "[I") mw_h9_242) (fun _ h9 => h9) hfh_33_112 dX13_checkConstant_50 ?_
      refine lv_iload_n hx hb dX13_checkConstant_53 rfl (lv_at hl 1 rfl) ?_
      refine lv_iconst (v := 1) hx hb dX13_checkConstant_54 (by decide) ?_
      refine lv_iadd hx hb dX13_checkConstant_55 ?_
      obtain ⟨hi_9, hsp⟩ := ox_in hsp
      refine va_iald hx hb hK hP 1 0 rfl rfl (i := (l1_33 + 1)) hi_9 dX13_checkConstant_56 ?_
      obtain ⟨u3_0, hu_3, hsp⟩ := ox_bind hsp
      try dsimp only at hsp
      have hPc := hP.sub (ws' := [(h0, .inr (13, z33)), (qf103, .inl (cf103, 8, .inl f103)), (qf102, .inl (cf102, 2048, .inl f102))]) [0, 2, 3] rfl
      have hDc := hD.sub (ws' := [(h0, .inr (13, z33)), (qf103, .inl (cf103, 8, .inl f103)), (qf102, .inl (cf102, 2048, .inl f102))]) [0, 2, 3] (by decide) rfl
      have hKc := hK.sub (tys' := [(cf103, .int), (cf102, .int)]) [1, 2] rfl
      have hFc := va_free (wc := [(h0, .inr (13, z33)), (qf103, .inl (cf103, 8, .inl f103)), (qf102, .inl (cf102, 2048, .inl f102))]) hD hS hA [0, 2, 3] rfl
      refine va_calli (va_runV (As := [.int v115, .int (f112 ((l1_33 + 1) : Int32).toNatClampNeg)]) (rest := []) ⟨hx, hb, hml, hown, hts⟩ (tm_constantOf l dC dI H.size h0 z33 v115 ((f112 ((l1_33 + 1) : Int32).toNatClampNeg)) qf102 qf103 cf103 f103 cf102 f102 nf u3_0 hlh_33 hfh_33_102 hfh_33_103 hu_3) (cwV 2 hts gv_h9_44 rfl rfl rfl (by decide +kernel) ⟨Nat.le_of_ble_eq_true rfl, Nat.le_of_ble_eq_true rfl⟩) ⟨fun a U g mk q => by obtain ⟨q0, q1, qP, qK, qD⟩ := q; exact ⟨q0, q1, qP, va_K.moved (u := U) (U := U.calling g mk a) (Vm.Alike.refl U.vm) qK, qD⟩, va_recv hKc hPc (ci := 13) (q0 := 0) rfl rfl, fun U hU hW => ⟨rfl, by rw [hU], by rw [hU]; exact hPc, va_K.moved hW.alike hKc, hDc.weaken (fun _ _ _ _ => trivial)⟩⟩ rfl rfl hl.1 rfl (lv_room (Nat.le_of_ble_eq_true rfl)) dX13_checkConstant_57 ⟨Nat.le_of_ble_eq_true rfl, Nat.le_of_ble_eq_true rfl⟩) hS (fun q _ h => hFc q h) hFc ?_
      clear hS
      intro r_10 u t H1 locs ht hvm hw hB hz1 hk1 hS
      obtain ⟨z_3, rfl⟩ : ∃ z, z = u := ⟨_, rfl⟩
      obtain ⟨hP1, hK1, hD1⟩ := hB
      rw [ht] at hP1
      have hK1 := va_K.moved hvm.symm hK1
      try dsimp only at hw
      have hPD := va_join (wr := [(qf112, .inl (cf112, 6000, .inl f112))]) (w1 := [(h0, .inr (13, z_3)), (qf103, .inl (cf103, 8, .inl f103)), (qf102, .inl (cf102, 2048, .inl f102))]) hP hD [0, 2, 3] [1] rfl rfl (by decide) (by decide) hk1 hFc hP1 hD1
      clear hP hD
      obtain ⟨hP, hD⟩ := hPD
      replace hK := (hK.sub (tys' := [(cf112, .int)]) [0] rfl).app hK1
      clear hPc hDc hKc hFc hP1 hK1 hD1 hz1 hk1 ht hvm
      generalize H1 = H at hP hS ⊢
      replace hP : va_P (dC, dI) vwCl [(qf112, .inl (cf112, 6000, .inl f112)), (h0, .inr (13, z_3)), (qf103, .inl (cf103, 8, .inl f103)), (qf102, .inl (cf102, 2048, .inl f102))] H := hP
      replace hD : va_D A [(qf112, .inl (cf112, 6000, .inl f112)), (h0, .inr (13, z_3)), (qf103, .inl (cf103, 8, .inl f103)), (qf102, .inl (cf102, 2048, .inl f102))] := hD
      replace hK : va_K (dC, dI) vwCl [(cf112, .int), (cf103, .int), (cf102, .int)] s := hK
      obtain ⟨hwa_3, hln_3, hre_3⟩ := hw
      have hfk_3_102 : z_3[102]? = some (.ref qf102) := (hre_3 102 ).trans (hfh_33_102)
      have hfk_3_103 : z_3[103]? = some (.ref qf103) := (hre_3 103 ).trans (hfh_33_103)
      have hfk_3_112 : z_3[112]? = some (.ref qf112) := (hre_3 112 ).trans (hfh_33_112)
      have hfk_3_114 : z_3[114]? = some (.int x114_33) := (hre_3 114 ).trans (hfh_33_114)
      have hfk_3_115 : z_3[115]? = some (.int v115) := (hre_3 115 ).trans (hfh_33_115)
      have hrq_3 : ∀ j : Nat, j ≠ 114 → z_3[j]? = zs[j]? := fun j g114 => (hre_3 j ).trans (hrh_33 j g114)
      obtain rfl := hwa_3
      refine lv_istore_n (lv' := [(2, .int u3_0), (0, .ref h0), (1, .int l1_33)]) hx hb dX13_checkConstant_60 rfl hl (by decide) rfl (fun ls hl => ?_)
      refine lv_iload_n hx hb dX13_checkConstant_61 rfl (lv_at hl 0 rfl) ?_
      refine lv_if_lt (tgt := 75) hx hb dX13_checkConstant_62 (by decide) (fun c_11 => ?_) (fun c_11 => ?_)
      · rw [if_pos c_11] at hsp
        exact hj_75 (H, locs, ls, z_3, l1_33, x114_33) ⟨lv_sub hl [1, 2] rfl, hS, hD.sub (ws' := [(h0, .inr (13, z_3)), (qf112, .inl (cf112, 6000, .inl f112)), (qf103, .inl (cf103, 8, .inl f103)), (qf102, .inl (cf102, 2048, .inl f102))]) [1, 0, 2, 3] (by decide) rfl, hP.sub (ws' := [(h0, .inr (13, z_3)), (qf112, .inl (cf112, 6000, .inl f112)), (qf103, .inl (cf103, 8, .inl f103)), (qf102, .inl (cf102, 2048, .inl f102))]) [1, 0, 2, 3] rfl, hfk_3_102, hfk_3_103, hfk_3_112, hfk_3_114, hfk_3_115, hln_3, hrq_3, hsp⟩
      · rw [if_neg c_11] at hsp
        refine lv_aload_n hx hb dX13_checkConstant_65 rfl (lv_at hl 1 rfl) ?_
        refine va_get (D := (dC, dI)) (ci := 13) (v := .ref qf112) (C := RX13) (T := TX13) (N := 155) hx hb hts uV_h9_X13 hown hK hP 1 rfl rfl 112 (by decide) (hts (.fieldLink RX13 245 "ClassMillModel" "look" "[I") mw_h9_242) (fun _ h9 => h9) hfk_3_112 dX13_checkConstant_66 ?_
        refine lv_iload_n hx hb dX13_checkConstant_69 rfl (lv_at hl 0 rfl) ?_
        obtain ⟨hi_12, hsp⟩ := ox_in hsp
        refine va_iald hx hb hK hP 0 0 rfl rfl (i := u3_0) hi_12 dX13_checkConstant_70 ?_
        refine lv_iconst (v := 3) hx hb dX13_checkConstant_71 (by decide) ?_
        refine lv_icmp_eq (tgt := 82) hx hb dX13_checkConstant_72 (by decide) (fun c_13 => ?_) (fun c_13 => ?_)
        · rw [if_pos c_13] at hsp
          exact hj_82 (H, locs, ls, z_3, l1_33, x114_33) ⟨lv_sub hl [1, 2] rfl, hS, hD.sub (ws' := [(h0, .inr (13, z_3)), (qf112, .inl (cf112, 6000, .inl f112)), (qf103, .inl (cf103, 8, .inl f103)), (qf102, .inl (cf102, 2048, .inl f102))]) [1, 0, 2, 3] (by decide) rfl, hP.sub (ws' := [(h0, .inr (13, z_3)), (qf112, .inl (cf112, 6000, .inl f112)), (qf103, .inl (cf103, 8, .inl f103)), (qf102, .inl (cf102, 2048, .inl f102))]) [1, 0, 2, 3] rfl, hfk_3_102, hfk_3_103, hfk_3_112, hfk_3_114, hfk_3_115, hln_3, hrq_3, hsp⟩
        · rw [if_neg c_13] at hsp
          exact hj_75 (H, locs, ls, z_3, l1_33, x114_33) ⟨lv_sub hl [1, 2] rfl, hS, hD.sub (ws' := [(h0, .inr (13, z_3)), (qf112, .inl (cf112, 6000, .inl f112)), (qf103, .inl (cf103, 8, .inl f103)), (qf102, .inl (cf102, 2048, .inl f102))]) [1, 0, 2, 3] (by decide) rfl, hP.sub (ws' := [(h0, .inr (13, z_3)), (qf112, .inl (cf112, 6000, .inl f112)), (qf103, .inl (cf103, 8, .inl f103)), (qf102, .inl (cf102, 2048, .inl f102))]) [1, 0, 2, 3] rfl, hfk_3_102, hfk_3_103, hfk_3_112, hfk_3_114, hfk_3_115, hln_3, hrq_3, hsp⟩
    · rw [if_neg c_8] at hsp
      have hr0 := Option.some.inj hsp
      clear hsp
      subst hr0
      have hP9 := hP.sub (ws' := [(h0, .inr (13, z33)), (qf112, .inl (cf112, 6000, .inl f112)), (qf103, .inl (cf103, 8, .inl f103)), (qf102, .inl (cf102, 2048, .inl f102))]) [0, 1, 2, 3] rfl
      have hD9 := hD.sub (ws' := [(h0, .inr (13, z33)), (qf112, .inl (cf112, 6000, .inl f112)), (qf103, .inl (cf103, 8, .inl f103)), (qf102, .inl (cf102, 2048, .inl f102))]) [0, 1, 2, 3] (by decide) rfl
      have hK9 := hK.sub (tys' := [(cf112, .int), (cf103, .int), (cf102, .int)]) [0, 1, 2] rfl
      exact W.vret hx hb hr (fun t ht hW => ⟨⟨(z33), rfl, ⟨trivial, hlh_33, hrh_33, hfh_33_114⟩, by rw [ht]; exact hP9, va_K.moved hW.alike hK9, hD9⟩, hS.F ht⟩) hS.2.2 dX13_checkConstant_43
  intro hj_33
  refine lv_aload_n hx hb dX13_checkConstant_0 rfl (lv_at hl 0 rfl) ?_
  refine va_get (D := (dC, dI)) (ci := 13) (v := .ref qf112) (C := RX13) (T := TX13) (N := 155) hx hb hts uV_h9_X13 hown hK hP 0 rfl rfl 112 (by decide) (hts (.fieldLink RX13 245 "ClassMillModel" "look" "[I") mw_h9_242) (fun _ h9 => h9) hf112 dX13_checkConstant_1 ?_
  refine lv_iload_n hx hb dX13_checkConstant_4 rfl (lv_at hl 1 rfl) ?_
  obtain ⟨hi_1, hsp⟩ := ox_in hsp
  refine va_iald hx hb hK hP 1 0 rfl rfl (i := a1) hi_1 dX13_checkConstant_5 ?_
  refine lv_iconst (v := 3) hx hb dX13_checkConstant_6 (by decide) ?_
  refine lv_icmp_ne (tgt := 33) hx hb dX13_checkConstant_7 (by decide) (fun c_2 => ?_) (fun c_2 => ?_)
  · rw [if_neg c_2] at hsp
    exact hj_33 (H, locs, ls, zs, a1, v114) ⟨lv_sub hl [0, 1] rfl, hS, hD.sub (ws' := [(h0, .inr (13, zs)), (qf112, .inl (cf112, 6000, .inl f112)), (qf103, .inl (cf103, 8, .inl f103)), (qf102, .inl (cf102, 2048, .inl f102))]) [0, 1, 2, 3] (by decide) rfl, hP.sub (ws' := [(h0, .inr (13, zs)), (qf112, .inl (cf112, 6000, .inl f112)), (qf103, .inl (cf103, 8, .inl f103)), (qf102, .inl (cf102, 2048, .inl f102))]) [0, 1, 2, 3] rfl, hf102, hf103, hf112, hf114, hf115, hlen, hrs0, hsp⟩
  · rw [if_pos c_2] at hsp
    refine lv_aload_n hx hb dX13_checkConstant_10 rfl (lv_at hl 0 rfl) ?_
    refine lv_aload_n hx hb dX13_checkConstant_11 rfl (lv_at hl 0 rfl) ?_
    refine va_get (D := (dC, dI)) (ci := 13) (v := .ref qf112) (C := RX13) (T := TX13) (N := 155) hx hb hts uV_h9_X13 hown hK hP 0 rfl rfl 112 (by decide) (hts (.fieldLink RX13 245 "ClassMillModel" "look" "[I") mw_h9_242) (fun _ h9 => h9) hf112 dX13_checkConstant_12 ?_
    refine lv_iload_n hx hb dX13_checkConstant_15 rfl (lv_at hl 1 rfl) ?_
    refine lv_iconst (v := 1) hx hb dX13_checkConstant_16 (by decide) ?_
    refine lv_iadd hx hb dX13_checkConstant_17 ?_
    obtain ⟨hi_3, hsp⟩ := ox_in hsp
    refine va_iald hx hb hK hP 1 0 rfl rfl (i := (a1 + 1)) hi_3 dX13_checkConstant_18 ?_
    refine lv_iconst (v := 4) hx hb dX13_checkConstant_19 (by decide) ?_
    obtain ⟨u1_0, hu_1, hsp⟩ := ox_bind hsp
    try dsimp only at hsp
    have hPc := hP.sub (ws' := [(h0, .inr (13, zs)), (qf103, .inl (cf103, 8, .inl f103)), (qf102, .inl (cf102, 2048, .inl f102)), (qf112, .inl (cf112, 6000, .inl f112))]) [0, 2, 3, 1] rfl
    have hDc := hD.sub (ws' := [(h0, .inr (13, zs)), (qf103, .inl (cf103, 8, .inl f103)), (qf102, .inl (cf102, 2048, .inl f102)), (qf112, .inl (cf112, 6000, .inl f112))]) [0, 2, 3, 1] (by decide) rfl
    have hKc := hK.sub (tys' := [(cf103, .int), (cf102, .int), (cf112, .int)]) [1, 2, 0] rfl
    have hFc := va_free (wc := [(h0, .inr (13, zs)), (qf103, .inl (cf103, 8, .inl f103)), (qf102, .inl (cf102, 2048, .inl f102)), (qf112, .inl (cf112, 6000, .inl f112))]) hD hS hA [0, 2, 3, 1] rfl
    refine va_calli (va_runV (As := [.int (f112 ((a1 + 1) : Int32).toNatClampNeg), .int 4]) (rest := []) ⟨hx, hb, hml, hown, hts⟩ (vm_isText l dC dI H.size h0 zs ((f112 ((a1 + 1) : Int32).toNatClampNeg)) 4 qf102 qf103 qf112 v115 cf103 f103 cf102 f102 cf112 f112 nf u1_0 hlen hf102 hf103 hf112 hf115 hu_1) (cwV 2 hts gv_h9_49 rfl rfl rfl (by decide +kernel) ⟨Nat.le_of_ble_eq_true rfl, Nat.le_of_ble_eq_true rfl⟩) ⟨fun a U g mk q => by obtain ⟨q0, q1, qP, qK, qD⟩ := q; exact ⟨q0, q1, qP, va_K.moved (u := U) (U := U.calling g mk a) (Vm.Alike.refl U.vm) qK, qD⟩, va_recv hKc hPc (ci := 13) (q0 := 0) rfl rfl, fun U hU hW => ⟨rfl, by rw [hU], by rw [hU]; exact hPc, va_K.moved hW.alike hKc, hDc.weaken (fun _ _ _ _ => trivial)⟩⟩ rfl rfl hl.1 rfl (lv_room (Nat.le_of_ble_eq_true rfl)) dX13_checkConstant_20 ⟨Nat.le_of_ble_eq_true rfl, Nat.le_of_ble_eq_true rfl⟩) hS (fun q _ h => hFc q h) hFc ?_
    clear hS
    intro r_4 u t H1 locs ht hvm hw hB hz1 hk1 hS
    obtain ⟨z_1, rfl⟩ : ∃ z, z = u := ⟨_, rfl⟩
    obtain ⟨hP1, hK1, hD1⟩ := hB
    rw [ht] at hP1
    have hK1 := va_K.moved hvm.symm hK1
    try dsimp only at hw
    have hPD := va_join (wr := []) (w1 := [(h0, .inr (13, z_1)), (qf103, .inl (cf103, 8, .inl f103)), (qf102, .inl (cf102, 2048, .inl f102)), (qf112, .inl (cf112, 6000, .inl f112))]) hP hD [0, 2, 3, 1] [] rfl rfl (by decide) (by decide) hk1 hFc hP1 hD1
    clear hP hD
    obtain ⟨hP, hD⟩ := hPD
    replace hK := (hK.sub (tys' := []) [] rfl).app hK1
    clear hPc hDc hKc hFc hP1 hK1 hD1 hz1 hk1 ht hvm
    generalize H1 = H at hP hS ⊢
    replace hP : va_P (dC, dI) vwCl [(h0, .inr (13, z_1)), (qf103, .inl (cf103, 8, .inl f103)), (qf102, .inl (cf102, 2048, .inl f102)), (qf112, .inl (cf112, 6000, .inl f112))] H := hP
    replace hD : va_D A [(h0, .inr (13, z_1)), (qf103, .inl (cf103, 8, .inl f103)), (qf102, .inl (cf102, 2048, .inl f102)), (qf112, .inl (cf112, 6000, .inl f112))] := hD
    replace hK : va_K (dC, dI) vwCl [(cf103, .int), (cf102, .int), (cf112, .int)] s := hK
    obtain ⟨hwa_1, hln_1, hre_1⟩ := hw
    have hfk_1_102 : z_1[102]? = some (.ref qf102) := (hre_1 102 ).trans (hf102)
    have hfk_1_103 : z_1[103]? = some (.ref qf103) := (hre_1 103 ).trans (hf103)
    have hfk_1_112 : z_1[112]? = some (.ref qf112) := (hre_1 112 ).trans (hf112)
    have hfk_1_114 : z_1[114]? = some (.int v114) := (hre_1 114 ).trans (hf114)
    have hfk_1_115 : z_1[115]? = some (.int v115) := (hre_1 115 ).trans (hf115)
    have hrq_1 : ∀ j : Nat, j ≠ 114 → z_1[j]? = zs[j]? := fun j g114 => (hre_1 j ).trans (hrs0 j g114)
    obtain ⟨rfl, hz_1⟩ := hwa_1
    rcases hz_1 with rfl | rfl
    · rw [if_pos rfl] at hsp
      refine lv_if_ne (tgt := 33) hx hb dX13_checkConstant_23 (by decide) (fun c_5 => (show False by revert c_5; decide).elim) (fun c_5 => ?_)
      refine lv_aload_n hx hb dX13_checkConstant_26 rfl (lv_at hl 0 rfl) ?_
      refine lv_iload_n hx hb dX13_checkConstant_27 rfl (lv_at hl 1 rfl) ?_
      refine lv_iconst (v := 1) hx hb dX13_checkConstant_28 (by decide) ?_
      refine lv_iadd hx hb dX13_checkConstant_29 ?_
      obtain ⟨u2_0, hu_2, hsp⟩ := ox_bind hsp
      try dsimp only at hsp
      have hPc := hP.sub (ws' := [(h0, .inr (13, z_1))]) [0] rfl
      have hDc := hD.sub (ws' := [(h0, .inr (13, z_1))]) [0] (by decide) rfl
      have hKc := hK.sub (tys' := []) [] rfl
      have hFc := va_free (wc := [(h0, .inr (13, z_1))]) hD hS hA [0] rfl
      refine va_callv (va_runV (As := [.int (a1 + 1)]) (rest := []) ⟨hx, hb, hml, hown, hts⟩ (tm_unfit l dC dI H.size h0 z_1 ((a1 + 1)) v114 nf u2_0 hln_1 hfk_1_114 hu_2) (cwV 1 hts gv_h9_48 rfl rfl rfl (by decide +kernel) ⟨Nat.le_of_ble_eq_true rfl, Nat.le_of_ble_eq_true rfl⟩) ⟨fun a U g mk q => by obtain ⟨q0, q1, qP, qK, qD⟩ := q; exact ⟨q0, q1, qP, va_K.moved (u := U) (U := U.calling g mk a) (Vm.Alike.refl U.vm) qK, qD⟩, va_recv hKc hPc (ci := 13) (q0 := 0) rfl rfl, fun U hU hW => ⟨rfl, by rw [hU], by rw [hU]; exact hPc, va_K.moved hW.alike hKc, hDc.weaken (fun _ _ _ _ => trivial)⟩⟩ rfl rfl hl.1 rfl (lv_room (Nat.le_of_ble_eq_true rfl)) dX13_checkConstant_30 ⟨Nat.le_of_ble_eq_true rfl, Nat.le_of_ble_eq_true rfl⟩) hS (fun q _ h => hFc q h) hFc ?_
      clear hS
      intro u t H1 locs ht hvm hw hB hz1 hk1 hS
      obtain ⟨z_2, rfl⟩ : ∃ z, z = u := ⟨_, rfl⟩
      obtain ⟨hP1, hK1, hD1⟩ := hB
      rw [ht] at hP1
      have hK1 := va_K.moved hvm.symm hK1
      try dsimp only at hw
      have hPD := va_join (wr := [(qf103, .inl (cf103, 8, .inl f103)), (qf102, .inl (cf102, 2048, .inl f102)), (qf112, .inl (cf112, 6000, .inl f112))]) (w1 := [(h0, .inr (13, z_2))]) hP hD [0] [1, 2, 3] rfl rfl (by decide) (by decide) hk1 hFc hP1 hD1
      clear hP hD
      obtain ⟨hP, hD⟩ := hPD
      replace hK := (hK.sub (tys' := [(cf103, .int), (cf102, .int), (cf112, .int)]) [0, 1, 2] rfl).app hK1
      clear hPc hDc hKc hFc hP1 hK1 hD1 hz1 hk1 ht hvm
      generalize H1 = H at hP hS ⊢
      replace hP : va_P (dC, dI) vwCl [(qf103, .inl (cf103, 8, .inl f103)), (qf102, .inl (cf102, 2048, .inl f102)), (qf112, .inl (cf112, 6000, .inl f112)), (h0, .inr (13, z_2))] H := hP
      replace hD : va_D A [(qf103, .inl (cf103, 8, .inl f103)), (qf102, .inl (cf102, 2048, .inl f102)), (qf112, .inl (cf112, 6000, .inl f112)), (h0, .inr (13, z_2))] := hD
      replace hK : va_K (dC, dI) vwCl [(cf103, .int), (cf102, .int), (cf112, .int)] s := hK
      obtain ⟨hwa_2, hln_2, hre_2, hch_2_114⟩ := hw
      have hfk_2_102 : z_2[102]? = some (.ref qf102) := (hre_2 102 (by decide)).trans (hfk_1_102)
      have hfk_2_103 : z_2[103]? = some (.ref qf103) := (hre_2 103 (by decide)).trans (hfk_1_103)
      have hfk_2_112 : z_2[112]? = some (.ref qf112) := (hre_2 112 (by decide)).trans (hfk_1_112)
      have hfk_2_115 : z_2[115]? = some (.int v115) := (hre_2 115 (by decide)).trans (hfk_1_115)
      have hrq_2 : ∀ j : Nat, j ≠ 114 → z_2[j]? = zs[j]? := fun j g114 => (hre_2 j g114).trans (hrq_1 j g114)
      exact hj_33 (H, locs, ls, z_2, a1, u2_0) ⟨lv_sub hl [0, 1] rfl, hS, hD.sub (ws' := [(h0, .inr (13, z_2)), (qf112, .inl (cf112, 6000, .inl f112)), (qf103, .inl (cf103, 8, .inl f103)), (qf102, .inl (cf102, 2048, .inl f102))]) [3, 2, 0, 1] (by decide) rfl, hP.sub (ws' := [(h0, .inr (13, z_2)), (qf112, .inl (cf112, 6000, .inl f112)), (qf103, .inl (cf103, 8, .inl f103)), (qf102, .inl (cf102, 2048, .inl f102))]) [3, 2, 0, 1] rfl, hfk_2_102, hfk_2_103, hfk_2_112, hch_2_114, hfk_2_115, hln_2, hrq_2, hsp⟩
    · rw [if_neg (by decide)] at hsp
      refine lv_if_ne (tgt := 33) hx hb dX13_checkConstant_23 (by decide) (fun c_6 => ?_) (fun c_6 => (show False by revert c_6; decide).elim)
      exact hj_33 (H, locs, ls, z_1, a1, v114) ⟨lv_sub hl [0, 1] rfl, hS, hD.sub (ws' := [(h0, .inr (13, z_1)), (qf112, .inl (cf112, 6000, .inl f112)), (qf103, .inl (cf103, 8, .inl f103)), (qf102, .inl (cf102, 2048, .inl f102))]) [0, 3, 1, 2] (by decide) rfl, hP.sub (ws' := [(h0, .inr (13, z_1)), (qf112, .inl (cf112, 6000, .inl f112)), (qf103, .inl (cf103, 8, .inl f103)), (qf102, .inl (cf102, 2048, .inl f102))]) [0, 3, 1, 2] rfl, hfk_1_102, hfk_1_103, hfk_1_112, hfk_1_114, hfk_1_115, hln_1, hrq_1, hsp⟩
def jn_vm_scanFields_94 (nf : Nat) (a1 : Int32) (a2 : Int32) (v113 : Int32) (v114 : Int32) (v115 : Int32) (f112 : Nat → Int32) (f106 : Nat → Int32) (f107 : Nat → Int32) (f103 : Nat → Int32) (f102 : Nat → Int32) (kk_35 : Int32 → Int32 → Int32 → Int32 → (Nat → Int32) → (Nat → Int32) → Int32 → Option (Int32 × (Nat → Int32) × (Nat → Int32) × Int32)) (l1_94 : Int32) (l2_94 : Int32) (l3_94 : Int32) (l4_94 : Int32) (g106_94 : Nat → Int32) (g107_94 : Nat → Int32) (x114_94 : Int32) : Option (Int32 × (Nat → Int32) × (Nat → Int32) × Int32) := ((sp_tm_isByte nf (l3_94 + 1) v113 x114_94).bind (fun p1 => (if p1.1 = 0 then (kk_35 l1_94 l2_94 (l3_94 + 2) (l4_94 + 1) g106_94 g107_94 p1.2) else (if (l3_94 + 1) < 0 then none else if 6000 ≤ ((l3_94 + 1) : Int32).toNatClampNeg then none else ((sp_vm_isText nf (f112 ((l3_94 + 1) : Int32).toNatClampNeg) 1 v115 f103 f102 f112).bind (fun p2 => (if p2 = 0 then ((sp_tm_unfit nf (l3_94 + 1) p1.2).bind (fun p3 => (kk_35 l1_94 l2_94 (l3_94 + 2) (l4_94 + 1) g106_94 g107_94 p3))) else (kk_35 l1_94 l2_94 (l3_94 + 2) (l4_94 + 1) g106_94 g107_94 p1.2))))))))
def lp_vm_scanFields_35 (nf n : Nat) (a1 : Int32) (a2 : Int32) (v113 : Int32) (v114 : Int32) (v115 : Int32) (f112 : Nat → Int32) (f106 : Nat → Int32) (f107 : Nat → Int32) (f103 : Nat → Int32) (f102 : Nat → Int32)  (l1_35 : Int32) (l2_35 : Int32) (l3_35 : Int32) (l4_35 : Int32) (g106_35 : Nat → Int32) (g107_35 : Nat → Int32) (x114_35 : Int32) : Option (Int32 × (Nat → Int32) × (Nat → Int32) × Int32) := match n with
  | 0 => none
  | n + 1 => (if l2_35 < 0 then none else if 6000 ≤ (l2_35 : Int32).toNatClampNeg then none else (if (f112 (l2_35 : Int32).toNatClampNeg) ≤ l4_35 then (some (l3_35, g106_35, g107_35, x114_35)) else (if x114_35 = (-1) then (if ((12 * l1_35) + l4_35) < 0 then none else if 96 ≤ (((12 * l1_35) + l4_35) : Int32).toNatClampNeg then none else ((sp_tm_isByte nf l3_35 v113 x114_35).bind (fun p1 => (if p1.1 = 0 then (jn_vm_scanFields_94 nf a1 a2 v113 v114 v115 f112 f106 f107 f103 f102 (lp_vm_scanFields_35 nf n a1 a2 v113 v114 v115 f112 f106 f107 f103 f102) l1_35 l2_35 l3_35 l4_35 g106_35 (upd g107_35 (((12 * l1_35) + l4_35) : Int32).toNatClampNeg l3_35) p1.2) else (if l3_35 < 0 then none else if 6000 ≤ (l3_35 : Int32).toNatClampNeg then none else ((sp_vm_isText nf (f112 (l3_35 : Int32).toNatClampNeg) 0 v115 f103 f102 f112).bind (fun p2 => (if p2 = 0 then ((sp_tm_unfit nf l3_35 p1.2).bind (fun p3 => (jn_vm_scanFields_94 nf a1 a2 v113 v114 v115 f112 f106 f107 f103 f102 (lp_vm_scanFields_35 nf n a1 a2 v113 v114 v115 f112 f106 f107 f103 f102) l1_35 l2_35 l3_35 l4_35 g106_35 (upd g107_35 (((12 * l1_35) + l4_35) : Int32).toNatClampNeg l3_35) p3))) else (jn_vm_scanFields_94 nf a1 a2 v113 v114 v115 f112 f106 f107 f103 f102 (lp_vm_scanFields_35 nf n a1 a2 v113 v114 v115 f112 f106 f107 f103 f102) l1_35 l2_35 l3_35 l4_35 g106_35 (upd g107_35 (((12 * l1_35) + l4_35) : Int32).toNatClampNeg l3_35) p1.2))))))))) else (some (l3_35, g106_35, g107_35, x114_35)))))
def jn_vm_scanFields_16 (nf : Nat) (a1 : Int32) (a2 : Int32) (v113 : Int32) (v114 : Int32) (v115 : Int32) (f112 : Nat → Int32) (f106 : Nat → Int32) (f107 : Nat → Int32) (f103 : Nat → Int32) (f102 : Nat → Int32)  (l1_16 : Int32) (l2_16 : Int32) (g106_16 : Nat → Int32) (g107_16 : Nat → Int32) (x114_16 : Int32) : Option (Int32 × (Nat → Int32) × (Nat → Int32) × Int32) := (if l2_16 < 0 then none else if 6000 ≤ (l2_16 : Int32).toNatClampNeg then none else (if l1_16 < 0 then none else if 8 ≤ (l1_16 : Int32).toNatClampNeg then none else (lp_vm_scanFields_35 nf nf a1 a2 v113 v114 v115 f112 f106 f107 f103 f102  l1_16 l2_16 (l2_16 + 1) 0 (upd g106_16 (l1_16 : Int32).toNatClampNeg (f112 (l2_16 : Int32).toNatClampNeg)) g107_16 x114_16)))
def sp_vm_scanFields (nf : Nat) (a1 : Int32) (a2 : Int32) (v113 : Int32) (v114 : Int32) (v115 : Int32) (f112 : Nat → Int32) (f106 : Nat → Int32) (f107 : Nat → Int32) (f103 : Nat → Int32) (f102 : Nat → Int32) : Option (Int32 × (Nat → Int32) × (Nat → Int32) × Int32) := (if a2 < 0 then none else if 6000 ≤ (a2 : Int32).toNatClampNeg then none else (if (f112 (a2 : Int32).toNatClampNeg) ≤ 12 then (jn_vm_scanFields_16 nf a1 a2 v113 v114 v115 f112 f106 f107 f103 f102  a1 a2 f106 f107 v114) else ((sp_tm_unfit nf a2 v114).bind (fun p1 => (jn_vm_scanFields_16 nf a1 a2 v113 v114 v115 f112 f106 f107 f103 f102  a1 a2 f106 f107 p1)))))
