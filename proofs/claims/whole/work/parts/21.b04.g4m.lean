set_option maxHeartbeats 4000000 in
set_option maxRecDepth 100000 in
/-- ClassMillModel.classOf -/
theorem vm_classOf (l : Launch) (dC : Nat → ClassId) (dI : Nat → Nat → Nat) (sz : Nat) (h0 : Nat) (zs : (List Value)) (a1 : Int32) (qf2 : Nat) (qf5 : Nat) (qf6 : Nat) (v24 : Int32) (qf25 : Nat) (cf5 : ClassId) (f5 : (Nat → Int32)) (cf6 : ClassId) (f6 : (Nat → Int32)) (cf2 : ClassId) (f2 : (Nat → Int32)) (cf25 : ClassId) (f25 : (Nat → Int32)) (nS477 : Nat) (fS477 : (Nat → Int32)) (hS477 : Nat) (qS477 : Nat) (tS477 : String) (nf : Nat) (r0 : Int32) (hlen : zs.length = 155) (hf2 : zs[2]? = some (.ref qf2)) (hf5 : zs[5]? = some (.ref qf5)) (hf6 : zs[6]? = some (.ref qf6)) (hf24 : zs[24]? = some (.int v24)) (hf25 : zs[25]? = some (.ref qf25)) (hsp : sp_vm_classOf nf a1 v24 f5 f6 f2 f25 nS477 fS477 = some r0) : Met l yX13_classOf (.code yX13_classOf cX13_classOf 4 (some .int) :: VS_h9) ({ frames := 5, cells := 0, slots := 0, locals := 112 }) (va_Pc [.ref h0, .int a1] (fun U => U.heap.size = sz ∧ va_P (dC, dI) vwCl [(h0, .inr (13, zs)), (qf5, .inl (cf5, 3002, .inl f5)), (qf6, .inl (cf6, 3002, .inl f6)), (qf2, .inl (cf2, 3000, .inl f2)), (qf25, .inl (cf25, 400, .inl f25))] U.heap ∧ va_K (dC, dI) vwCl [(cf5, .int), (cf6, .int), (cf2, .int), (cf25, .int)] U ∧ va_D (fun _ => True) [(h0, .inr (13, zs)), (qf5, .inl (cf5, 3002, .inl f5)), (qf6, .inl (cf6, 3002, .inl f6)), (qf2, .inl (cf2, 3000, .inl f2)), (qf25, .inl (cf25, 400, .inl f25))] ∧ pz_W nS477 fS477 hS477 qS477 (va_A [(h0, .inr (13, zs)), (qf5, .inl (cf5, 3002, .inl f5)), (qf6, .inl (cf6, 3002, .inl f6)), (qf2, .inl (cf2, 3000, .inl f2)), (qf25, .inl (cf25, 400, .inl f25))] sz) U U.heap ∧ vk_R RX13 477 tS477 hS477 U)) (va_Qi (fun (r : Int32) (u : (List Value)) => match u with | (zo1) => r0 = r ∧ zo1.length = 155 ∧ (∀ j : Nat, zo1[j]? = zs[j]?)) (fun (u : (List Value)) (t : State) => match u with | (zo1) => va_P (dC, dI) vwCl [(h0, .inr (13, zo1)), (qf5, .inl (cf5, 3002, .inl f5)), (qf6, .inl (cf6, 3002, .inl f6)), (qf2, .inl (cf2, 3000, .inl f2)), (qf25, .inl (cf25, 400, .inl f25))] t.heap ∧ va_K (dC, dI) vwCl [(cf5, .int), (cf6, .int), (cf2, .int), (cf25, .int)] t ∧ va_D (va_A [(h0, .inr (13, zs)), (qf5, .inl (cf5, 3002, .inl f5)), (qf6, .inl (cf6, 3002, .inl f6)), (qf2, .inl (cf2, 3000, .inl f2)), (qf25, .inl (cf25, 400, .inl f25))] sz) [(h0, .inr (13, zo1)), (qf5, .inl (cf5, 3002, .inl f5)), (qf6, .inl (cf6, 3002, .inl f6)), (qf2, .inl (cf2, 3000, .inl f2)), (qf25, .inl (cf25, 400, .inl f25))]) (va_A [(h0, .inr (13, zs)), (qf5, .inl (cf5, 3002, .inl f5)), (qf6, .inl (cf6, 3002, .inl f6)), (qf2, .inl (cf2, 3000, .inl f2)), (qf25, .inl (cf25, 400, .inl f25))] sz)) 0 0 (va_A [(h0, .inr (13, zs)), (qf5, .inl (cf5, 3002, .inl f5)), (qf6, .inl (cf6, 3002, .inl f6)), (qf2, .inl (cf2, 3000, .inl f2)), (qf25, .inl (cf25, 400, .inl f25))] sz) := by
  refine Met.ofW (cc := cX13_classOf) (maxL := 4) (ret := (some .int)) (by decide) rfl ?_
  intro p e s m args below meth c s₁ B hml hv
  obtain ⟨rfl, hsz, hP, hK, hD0, hZWS477, hZRS477⟩ := hv
  have hx := B.exec
  have hb := B.bytes
  have hr := B.returns
  have hts := atoms_spec (ws := (.code yX13_classOf cX13_classOf 4 (some .int) :: VS_h9)) B.pre
  replace hts := fun w (h : w ∈ VS_h9) => hts w (List.mem_cons_of_mem _ h)
  have hown : s.vm.findClass RX13 = some m.cls := findClass_of_methodNamed B.named
  have hlocks := B.notSynchronized
  subst hsz
  have hD := hD0.self (sz := s.heap.size)
  generalize hAe : va_A [(h0, .inr (13, zs)), (qf5, .inl (cf5, 3002, .inl f5)), (qf6, .inl (cf6, 3002, .inl f6)), (qf2, .inl (cf2, 3000, .inl f2)), (qf25, .inl (cf25, 400, .inl f25))] s.heap.size = A at hD hZWS477 ⊢
  have hA : ∀ q : Nat, s.heap.size ≤ q → A q := fun q h => by rw [← hAe]; exact Or.inr h
  have hP : va_P (dC, dI) vwCl [(h0, .inr (13, zs)), (qf5, .inl (cf5, 3002, .inl f5)), (qf6, .inl (cf6, 3002, .inl f6)), (qf2, .inl (cf2, 3000, .inl f2)), (qf25, .inl (cf25, 400, .inl f25))] s.heap := hP
  have hl := lv_entry ([.ref h0, .int a1]) (n := 4) (Nat.le_of_ble_eq_true rfl)
  rw [lg_entry_eq]
  generalize (lg_sl ([.ref h0, .int a1]) ++ List.replicate (4 - (lg_sl ([.ref h0, .int a1])).length) Slot.unset).toArray = ls at hl ⊢
  have hl : lv_has ls 4 [(0, .ref h0), (1, .int a1)] := hl
  obtain ⟨H, hH⟩ : ∃ H : Heap, s.heap = H := ⟨_, rfl⟩
  rw [hH] at hP ⊢
  have hS : va_S A s.heap H [] := by rw [← hH]; exact va_S.rf
  obtain ⟨locs, hlo⟩ : ∃ locs : List Loc, locs = [] := ⟨_, rfl⟩
  rw [← hlo] at hS ⊢
  have hrs0 : ∀ j : Nat, zs[j]? = zs[j]? := fun _  => rfl
  unfold sp_vm_classOf at hsp
  refine lv_aload_n hx hb dX13_classOf_0 rfl (lv_at hl 0 rfl) ?_
  refine pw_ldcwS hx hb hown hZRS477 dX13_classOf_1 ?_
  refine lv_aload_n hx hb dX13_classOf_4 rfl (lv_at hl 0 rfl) ?_
  refine va_get (D := (dC, dI)) (ci := 13) (v := .ref qf5) (C := RX13) (T := TX13) (N := 155) hx hb hts uV_h9_X13 hown hK hP 0 rfl rfl 5 (by decide) (hts (.fieldLink RX13 19 "ClassMillModel" "from" "[I") mw_h9_91) (fun _ h9 => h9) hf5 dX13_classOf_5 ?_
  refine lv_iload_n hx hb dX13_classOf_8 rfl (lv_at hl 1 rfl) ?_
  obtain ⟨hi_1, hsp⟩ := ox_in hsp
  refine va_iald hx hb hK hP 1 0 rfl rfl (i := a1) hi_1 dX13_classOf_9 ?_
  refine lv_aload_n hx hb dX13_classOf_10 rfl (lv_at hl 0 rfl) ?_
  refine va_get (D := (dC, dI)) (ci := 13) (v := .ref qf6) (C := RX13) (T := TX13) (N := 155) hx hb hts uV_h9_X13 hown hK hP 0 rfl rfl 6 (by decide) (hts (.fieldLink RX13 22 "ClassMillModel" "wide" "[I") mw_h9_92) (fun _ h9 => h9) hf6 dX13_classOf_11 ?_
  refine lv_iload_n hx hb dX13_classOf_14 rfl (lv_at hl 1 rfl) ?_
  obtain ⟨hi_2, hsp⟩ := ox_in hsp
  refine va_iald hx hb hK hP 2 1 rfl rfl (i := a1) hi_2 dX13_classOf_15 ?_
  obtain ⟨u1_0, hu_1, hsp⟩ := ox_bind hsp
  try dsimp only at hsp
  have hPc := hP.sub (ws' := [(h0, .inr (13, zs)), (qf2, .inl (cf2, 3000, .inl f2))]) [0, 3] rfl
  have hDc := hD.sub (ws' := [(h0, .inr (13, zs)), (qf2, .inl (cf2, 3000, .inl f2))]) [0, 3] (by decide) rfl
  have hKc := hK.sub (tys' := [(cf2, .int)]) [2] rfl
  have hFc := va_free (wc := [(h0, .inr (13, zs)), (qf2, .inl (cf2, 3000, .inl f2))]) hD hS hA [0, 3] rfl
  refine va_calli (va_runV (As := [.ref hS477, .int (f5 (a1 : Int32).toNatClampNeg), .int (f6 (a1 : Int32).toNatClampNeg)]) (rest := []) ⟨hx, hb, hml, hown, hts⟩ (vm_among l dC dI H.size h0 zs hS477 ((f5 (a1 : Int32).toNatClampNeg)) ((f6 (a1 : Int32).toNatClampNeg)) qf2 cf2 f2 nS477 fS477 qS477 nf u1_0 hlen hf2 hu_1) (cwV 3 hts gv_h9_7 rfl rfl rfl (by decide +kernel) ⟨Nat.le_of_ble_eq_true rfl, Nat.le_of_ble_eq_true rfl⟩) ⟨fun a U g mk q => by obtain ⟨q0, q1, qP, qK, qD, qhZWSa1⟩ := q; exact ⟨q0, q1, qP, va_K.moved (u := U) (U := U.calling g mk a) (Vm.Alike.refl U.vm) qK, qD, pz_W.moved (u := U) (U := U.calling g mk a) (Vm.Alike.refl U.vm) qhZWSa1⟩, va_recv hKc hPc (ci := 13) (q0 := 0) rfl rfl, fun U hU hW => ⟨rfl, by rw [hU], by rw [hU]; exact hPc, va_K.moved hW.alike hKc, hDc.weaken (fun _ _ _ _ => trivial), by rw [hU]; exact ((pz_W.moved hW.alike hZWS477).kept hS.2.1).narrow hFc⟩⟩ rfl rfl hl.1 rfl (lv_room (Nat.le_of_ble_eq_true rfl)) dX13_classOf_16 ⟨Nat.le_of_ble_eq_true rfl, Nat.le_of_ble_eq_true rfl⟩) hS (fun q _ h => hFc q h) hFc ?_
  clear hS
  intro r_3 u t H1 locs ht hvm hw hB hz1 hk1 hS
  obtain ⟨z_1, rfl⟩ : ∃ z, z = u := ⟨_, rfl⟩
  obtain ⟨hP1, hK1, hD1⟩ := hB
  rw [ht] at hP1
  have hK1 := va_K.moved hvm.symm hK1
  try dsimp only at hw
  have hPD := va_join (wr := [(qf5, .inl (cf5, 3002, .inl f5)), (qf6, .inl (cf6, 3002, .inl f6)), (qf25, .inl (cf25, 400, .inl f25))]) (w1 := [(h0, .inr (13, z_1)), (qf2, .inl (cf2, 3000, .inl f2))]) hP hD [0, 3] [1, 2, 4] rfl rfl (by decide) (by decide) hk1 hFc hP1 hD1
  clear hP hD
  obtain ⟨hP, hD⟩ := hPD
  replace hK := (hK.sub (tys' := [(cf5, .int), (cf6, .int), (cf25, .int)]) [0, 1, 3] rfl).app hK1
  clear hPc hDc hKc hFc hP1 hK1 hD1 hz1 hk1 ht hvm
  generalize H1 = H at hP hS ⊢
  replace hP : va_P (dC, dI) vwCl [(qf5, .inl (cf5, 3002, .inl f5)), (qf6, .inl (cf6, 3002, .inl f6)), (qf25, .inl (cf25, 400, .inl f25)), (h0, .inr (13, z_1)), (qf2, .inl (cf2, 3000, .inl f2))] H := hP
  replace hD : va_D A [(qf5, .inl (cf5, 3002, .inl f5)), (qf6, .inl (cf6, 3002, .inl f6)), (qf25, .inl (cf25, 400, .inl f25)), (h0, .inr (13, z_1)), (qf2, .inl (cf2, 3000, .inl f2))] := hD
  replace hK : va_K (dC, dI) vwCl [(cf5, .int), (cf6, .int), (cf25, .int), (cf2, .int)] s := hK
  obtain ⟨hwa_1, hln_1, hre_1⟩ := hw
  have hfk_1_2 : z_1[2]? = some (.ref qf2) := (hre_1 2 ).trans (hf2)
  have hfk_1_5 : z_1[5]? = some (.ref qf5) := (hre_1 5 ).trans (hf5)
  have hfk_1_6 : z_1[6]? = some (.ref qf6) := (hre_1 6 ).trans (hf6)
  have hfk_1_24 : z_1[24]? = some (.int v24) := (hre_1 24 ).trans (hf24)
  have hfk_1_25 : z_1[25]? = some (.ref qf25) := (hre_1 25 ).trans (hf25)
  have hrq_1 : ∀ j : Nat, z_1[j]? = zs[j]? := fun j  => (hre_1 j ).trans (hrs0 j )
  obtain rfl := hwa_1
  refine lv_istore_n (lv' := [(2, .int u1_0), (0, .ref h0), (1, .int a1)]) hx hb dX13_classOf_19 rfl hl (by decide) rfl (fun ls hl => ?_)
  refine lv_iload_n hx hb dX13_classOf_20 rfl (lv_at hl 0 rfl) ?_
  refine lv_if_lt (tgt := 26) hx hb dX13_classOf_21 (by decide) (fun c_4 => ?_) (fun c_4 => ?_)
  · rw [if_pos c_4] at hsp
    refine lv_iconst (v := 0) hx hb dX13_classOf_26 (by decide) ?_
    refine lv_istore_n (lv' := [(3, .int 0), (2, .int u1_0), (0, .ref h0), (1, .int a1)]) hx hb dX13_classOf_27 rfl hl (by decide) rfl (fun ls hl => ?_)
    replace hl : lv_has ls 4 [(3, .int 0), (0, .ref h0), (1, .int a1)] := lv_sub hl [0, 2, 3] rfl
    replace hP := hP.sub (ws' := [(h0, .inr (13, z_1)), (qf5, .inl (cf5, 3002, .inl f5)), (qf6, .inl (cf6, 3002, .inl f6)), (qf2, .inl (cf2, 3000, .inl f2)), (qf25, .inl (cf25, 400, .inl f25))]) [3, 0, 1, 4, 2] rfl
    replace hD := hD.sub (ws' := [(h0, .inr (13, z_1)), (qf5, .inl (cf5, 3002, .inl f5)), (qf6, .inl (cf6, 3002, .inl f6)), (qf2, .inl (cf2, 3000, .inl f2)), (qf25, .inl (cf25, 400, .inl f25))]) [3, 0, 1, 4, 2] (by decide) rfl
    replace hK := hK.sub (tys' := [(cf5, .int), (cf6, .int), (cf2, .int), (cf25, .int)]) [0, 1, 3, 2] rfl
    obtain ⟨n_28, hn_28⟩ : ∃ z : Nat, z = nf := ⟨_, rfl⟩
    obtain ⟨l1_28, el1_28⟩ : ∃ z : Int32, z = a1 := ⟨_, rfl⟩
    obtain ⟨l3_28, el3_28⟩ : ∃ z : Int32, z = 0 := ⟨_, rfl⟩
    replace hsp : lp_vm_classOf_28 nf n_28 a1 v24 f5 f6 f2 f25 nS477 fS477 l1_28 l3_28 = some r0 := by rw [hn_28, el1_28, el3_28]; exact hsp
    replace hl : lv_has ls 4 [(3, .int l3_28), (0, .ref h0), (1, .int l1_28)] := by rw [el1_28, el3_28]; exact hl
    obtain ⟨z28, ez28⟩ : ∃ z : List Value, z = z_1 := ⟨_, rfl⟩
    have hfh_28_2 : z28[2]? = some (.ref qf2) := by rw [ez28]; exact hfk_1_2
    have hfh_28_5 : z28[5]? = some (.ref qf5) := by rw [ez28]; exact hfk_1_5
    have hfh_28_6 : z28[6]? = some (.ref qf6) := by rw [ez28]; exact hfk_1_6
    have hfh_28_24 : z28[24]? = some (.int v24) := by rw [ez28]; exact hfk_1_24
    have hfh_28_25 : z28[25]? = some (.ref qf25) := by rw [ez28]; exact hfk_1_25
    have hlh_28 : z28.length = 155 := by rw [ez28]; exact hln_1
    have hrh_28 : ∀ j : Nat, z28[j]? = zs[j]? := by rw [ez28]; exact hrq_1
    replace hP : va_P (dC, dI) vwCl [(h0, .inr (13, z28)), (qf5, .inl (cf5, 3002, .inl f5)), (qf6, .inl (cf6, 3002, .inl f6)), (qf2, .inl (cf2, 3000, .inl f2)), (qf25, .inl (cf25, 400, .inl f25))] H := by rw [ez28]; exact hP
    replace hD : va_D A [(h0, .inr (13, z28)), (qf5, .inl (cf5, 3002, .inl f5)), (qf6, .inl (cf6, 3002, .inl f6)), (qf2, .inl (cf2, 3000, .inl f2)), (qf25, .inl (cf25, 400, .inl f25))] := by rw [ez28]; exact hD
    clear hn_28 ez28 el1_28 el3_28
    try clear hlo
    try clear hH
    revert hsp
    revert hP
    revert hD
    revert hS
    revert hl
    revert hrh_28
    revert hlh_28
    revert hfh_28_25
    revert hfh_28_24
    revert hfh_28_6
    revert hfh_28_5
    revert hfh_28_2
    revert l3_28
    revert l1_28
    revert z28
    revert ls
    revert locs
    revert H
    induction n_28 with
    | zero => intro H locs ls z28 l1_28 l3_28 hfh_28_2 hfh_28_5 hfh_28_6 hfh_28_24 hfh_28_25 hlh_28 hrh_28 hl hS hD hP hsp; unfold lp_vm_classOf_28 at hsp; cases hsp
    | succ n_28 ih_28 =>
      intro H locs ls z28 l1_28 l3_28 hfh_28_2 hfh_28_5 hfh_28_6 hfh_28_24 hfh_28_25 hlh_28 hrh_28 hl hS hD hP hsp
      unfold lp_vm_classOf_28 at hsp
      try dsimp only at hsp
      refine lv_iload_n hx hb dX13_classOf_28 rfl (lv_at hl 0 rfl) ?_
      refine lv_aload_n hx hb dX13_classOf_29 rfl (lv_at hl 1 rfl) ?_
      refine va_get (D := (dC, dI)) (ci := 13) (v := .int v24) (C := RX13) (T := TX13) (N := 155) hx hb hts uV_h9_X13 hown hK hP 0 rfl rfl 24 (by decide) (hts (.fieldLink RX13 409 "ClassMillModel" "classes" "I") mw_h9_93) (fun _ h9 => h9) hfh_28_24 dX13_classOf_30 ?_
      refine lv_icmp_ge (tgt := 61) hx hb dX13_classOf_33 (by decide) (fun c_5 => ?_) (fun c_5 => ?_)
      · rw [if_pos c_5] at hsp
        refine lv_iconst (v := (-1)) hx hb dX13_classOf_61 (by decide) ?_
        have hr0 := Option.some.inj hsp
        clear hsp
        subst hr0
        have hP9 := hP.sub (ws' := [(h0, .inr (13, z28)), (qf5, .inl (cf5, 3002, .inl f5)), (qf6, .inl (cf6, 3002, .inl f6)), (qf2, .inl (cf2, 3000, .inl f2)), (qf25, .inl (cf25, 400, .inl f25))]) [0, 1, 2, 3, 4] rfl
        have hD9 := hD.sub (ws' := [(h0, .inr (13, z28)), (qf5, .inl (cf5, 3002, .inl f5)), (qf6, .inl (cf6, 3002, .inl f6)), (qf2, .inl (cf2, 3000, .inl f2)), (qf25, .inl (cf25, 400, .inl f25))]) [0, 1, 2, 3, 4] (by decide) rfl
        have hK9 := hK.sub (tys' := [(cf5, .int), (cf6, .int), (cf2, .int), (cf25, .int)]) [0, 1, 2, 3] rfl
        exact W.iret hx hb hr (fun t ht hW => ⟨⟨((-1)), (z28), rfl, ⟨rfl, hlh_28, hrh_28⟩, by rw [ht]; exact hP9, va_K.moved hW.alike hK9, hD9⟩, hS.F ht⟩) hS.2.2 dX13_classOf_62
      · rw [if_neg c_5] at hsp
        refine lv_aload_n hx hb dX13_classOf_36 rfl (lv_at hl 1 rfl) ?_
        refine lv_aload_n hx hb dX13_classOf_37 rfl (lv_at hl 1 rfl) ?_
        refine va_get (D := (dC, dI)) (ci := 13) (v := .ref qf25) (C := RX13) (T := TX13) (N := 155) hx hb hts uV_h9_X13 hown hK hP 0 rfl rfl 25 (by decide) (hts (.fieldLink RX13 62 "ClassMillModel" "className" "[I") mw_h9_94) (fun _ h9 => h9) hfh_28_25 dX13_classOf_38 ?_
        refine lv_iload_n hx hb dX13_classOf_41 rfl (lv_at hl 0 rfl) ?_
        obtain ⟨hi_6, hsp⟩ := ox_in hsp
        refine va_iald hx hb hK hP 4 3 rfl rfl (i := l3_28) hi_6 dX13_classOf_42 ?_
        refine lv_iload_n hx hb dX13_classOf_43 rfl (lv_at hl 2 rfl) ?_
        obtain ⟨u2_0, hu_2, hsp⟩ := ox_bind hsp
        try dsimp only at hsp
        have hPc := hP.sub (ws' := [(h0, .inr (13, z28)), (qf6, .inl (cf6, 3002, .inl f6)), (qf5, .inl (cf5, 3002, .inl f5)), (qf2, .inl (cf2, 3000, .inl f2))]) [0, 2, 1, 3] rfl
        have hDc := hD.sub (ws' := [(h0, .inr (13, z28)), (qf6, .inl (cf6, 3002, .inl f6)), (qf5, .inl (cf5, 3002, .inl f5)), (qf2, .inl (cf2, 3000, .inl f2))]) [0, 2, 1, 3] (by decide) rfl
        have hKc := hK.sub (tys' := [(cf6, .int), (cf5, .int), (cf2, .int)]) [1, 0, 2] rfl
        have hFc := va_free (wc := [(h0, .inr (13, z28)), (qf6, .inl (cf6, 3002, .inl f6)), (qf5, .inl (cf5, 3002, .inl f5)), (qf2, .inl (cf2, 3000, .inl f2))]) hD hS hA [0, 2, 1, 3] rfl
        refine va_calli (va_runV (As := [.int (f25 (l3_28 : Int32).toNatClampNeg), .int l1_28]) (rest := []) ⟨hx, hb, hml, hown, hts⟩ (tn_isLike l dC dI H.size h0 z28 ((f25 (l3_28 : Int32).toNatClampNeg)) l1_28 qf2 qf5 qf6 cf6 f6 cf5 f5 cf2 f2 nf u2_0 hlh_28 hfh_28_2 hfh_28_5 hfh_28_6 hu_2) (cwV 2 hts gv_h9_16 rfl rfl rfl (by decide +kernel) ⟨Nat.le_of_ble_eq_true rfl, Nat.le_of_ble_eq_true rfl⟩) ⟨fun a U g mk q => by obtain ⟨q0, q1, qP, qK, qD⟩ := q; exact ⟨q0, q1, qP, va_K.moved (u := U) (U := U.calling g mk a) (Vm.Alike.refl U.vm) qK, qD⟩, va_recv hKc hPc (ci := 13) (q0 := 0) rfl rfl, fun U hU hW => ⟨rfl, by rw [hU], by rw [hU]; exact hPc, va_K.moved hW.alike hKc, hDc.weaken (fun _ _ _ _ => trivial)⟩⟩ rfl rfl hl.1 rfl (lv_room (Nat.le_of_ble_eq_true rfl)) dX13_classOf_44 ⟨Nat.le_of_ble_eq_true rfl, Nat.le_of_ble_eq_true rfl⟩) hS (fun q _ h => hFc q h) hFc ?_
        clear hS
        intro r_7 u t H1 locs ht hvm hw hB hz1 hk1 hS
        obtain ⟨z_2, rfl⟩ : ∃ z, z = u := ⟨_, rfl⟩
        obtain ⟨hP1, hK1, hD1⟩ := hB
        rw [ht] at hP1
        have hK1 := va_K.moved hvm.symm hK1
        try dsimp only at hw
        have hPD := va_join (wr := [(qf25, .inl (cf25, 400, .inl f25))]) (w1 := [(h0, .inr (13, z_2)), (qf6, .inl (cf6, 3002, .inl f6)), (qf5, .inl (cf5, 3002, .inl f5)), (qf2, .inl (cf2, 3000, .inl f2))]) hP hD [0, 2, 1, 3] [4] rfl rfl (by decide) (by decide) hk1 hFc hP1 hD1
        clear hP hD
        obtain ⟨hP, hD⟩ := hPD
        replace hK := (hK.sub (tys' := [(cf25, .int)]) [3] rfl).app hK1
        clear hPc hDc hKc hFc hP1 hK1 hD1 hz1 hk1 ht hvm
        generalize H1 = H at hP hS ⊢
        replace hP : va_P (dC, dI) vwCl [(qf25, .inl (cf25, 400, .inl f25)), (h0, .inr (13, z_2)), (qf6, .inl (cf6, 3002, .inl f6)), (qf5, .inl (cf5, 3002, .inl f5)), (qf2, .inl (cf2, 3000, .inl f2))] H := hP
        replace hD : va_D A [(qf25, .inl (cf25, 400, .inl f25)), (h0, .inr (13, z_2)), (qf6, .inl (cf6, 3002, .inl f6)), (qf5, .inl (cf5, 3002, .inl f5)), (qf2, .inl (cf2, 3000, .inl f2))] := hD
        replace hK : va_K (dC, dI) vwCl [(cf25, .int), (cf6, .int), (cf5, .int), (cf2, .int)] s := hK
        obtain ⟨hwa_2, hln_2, hre_2⟩ := hw
        have hfk_2_2 : z_2[2]? = some (.ref qf2) := (hre_2 2 ).trans (hfh_28_2)
        have hfk_2_5 : z_2[5]? = some (.ref qf5) := (hre_2 5 ).trans (hfh_28_5)
        have hfk_2_6 : z_2[6]? = some (.ref qf6) := (hre_2 6 ).trans (hfh_28_6)
        have hfk_2_24 : z_2[24]? = some (.int v24) := (hre_2 24 ).trans (hfh_28_24)
        have hfk_2_25 : z_2[25]? = some (.ref qf25) := (hre_2 25 ).trans (hfh_28_25)
        have hrq_2 : ∀ j : Nat, z_2[j]? = zs[j]? := fun j  => (hre_2 j ).trans (hrh_28 j )
        obtain ⟨rfl, hz_2⟩ := hwa_2
        rcases hz_2 with rfl | rfl
        · rw [if_pos rfl] at hsp
          refine lv_if_eq (tgt := 55) hx hb dX13_classOf_47 (by decide) (fun c_8 => ?_) (fun c_8 => (show False by revert c_8; decide).elim)
          refine lv_iinc (v := (l3_28 + 1)) (lv' := [(3, .int (l3_28 + 1)), (0, .ref h0), (1, .int l1_28)]) hx hb dX13_classOf_55 hl (k := 0) rfl rfl (by decide) rfl (fun ls hl => ?_)
          refine lv_goto (tgt := 28) hx hb dX13_classOf_58 (by decide) ?_
          exact ih_28 H locs ls z_2 l1_28 (l3_28 + 1) (hfk_2_2) (hfk_2_5) (hfk_2_6) (hfk_2_24) (hfk_2_25) hln_2 hrq_2 (lv_sub hl [0, 1, 2] rfl) hS (hD.sub (ws' := [(h0, .inr (13, z_2)), (qf5, .inl (cf5, 3002, .inl f5)), (qf6, .inl (cf6, 3002, .inl f6)), (qf2, .inl (cf2, 3000, .inl f2)), (qf25, .inl (cf25, 400, .inl f25))]) [1, 3, 2, 4, 0] (by decide) rfl) (hP.sub (ws' := [(h0, .inr (13, z_2)), (qf5, .inl (cf5, 3002, .inl f5)), (qf6, .inl (cf6, 3002, .inl f6)), (qf2, .inl (cf2, 3000, .inl f2)), (qf25, .inl (cf25, 400, .inl f25))]) [1, 3, 2, 4, 0] rfl) hsp
        · rw [if_neg (by decide)] at hsp
          refine lv_if_eq (tgt := 55) hx hb dX13_classOf_47 (by decide) (fun c_9 => (show False by revert c_9; decide).elim) (fun c_9 => ?_)
          refine lv_bipush (v := 8) hx hb dX13_classOf_50 (by decide) ?_
          refine lv_iload_n hx hb dX13_classOf_52 rfl (lv_at hl 0 rfl) ?_
          refine lv_iadd hx hb dX13_classOf_53 ?_
          have hr0 := Option.some.inj hsp
          clear hsp
          subst hr0
          have hP9 := hP.sub (ws' := [(h0, .inr (13, z_2)), (qf5, .inl (cf5, 3002, .inl f5)), (qf6, .inl (cf6, 3002, .inl f6)), (qf2, .inl (cf2, 3000, .inl f2)), (qf25, .inl (cf25, 400, .inl f25))]) [1, 3, 2, 4, 0] rfl
          have hD9 := hD.sub (ws' := [(h0, .inr (13, z_2)), (qf5, .inl (cf5, 3002, .inl f5)), (qf6, .inl (cf6, 3002, .inl f6)), (qf2, .inl (cf2, 3000, .inl f2)), (qf25, .inl (cf25, 400, .inl f25))]) [1, 3, 2, 4, 0] (by decide) rfl
          have hK9 := hK.sub (tys' := [(cf5, .int), (cf6, .int), (cf2, .int), (cf25, .int)]) [2, 1, 3, 0] rfl
          exact W.iret hx hb hr (fun t ht hW => ⟨⟨((8 + l3_28)), (z_2), rfl, ⟨rfl, hln_2, hrq_2⟩, by rw [ht]; exact hP9, va_K.moved hW.alike hK9, hD9⟩, hS.F ht⟩) hS.2.2 dX13_classOf_54
  · rw [if_neg c_4] at hsp
    refine lv_iload_n hx hb dX13_classOf_24 rfl (lv_at hl 0 rfl) ?_
    have hr0 := Option.some.inj hsp
    clear hsp
    subst hr0
    have hP9 := hP.sub (ws' := [(h0, .inr (13, z_1)), (qf5, .inl (cf5, 3002, .inl f5)), (qf6, .inl (cf6, 3002, .inl f6)), (qf2, .inl (cf2, 3000, .inl f2)), (qf25, .inl (cf25, 400, .inl f25))]) [3, 0, 1, 4, 2] rfl
    have hD9 := hD.sub (ws' := [(h0, .inr (13, z_1)), (qf5, .inl (cf5, 3002, .inl f5)), (qf6, .inl (cf6, 3002, .inl f6)), (qf2, .inl (cf2, 3000, .inl f2)), (qf25, .inl (cf25, 400, .inl f25))]) [3, 0, 1, 4, 2] (by decide) rfl
    have hK9 := hK.sub (tys' := [(cf5, .int), (cf6, .int), (cf2, .int), (cf25, .int)]) [0, 1, 3, 2] rfl
    exact W.iret hx hb hr (fun t ht hW => ⟨⟨(u1_0), (z_1), rfl, ⟨rfl, hln_1, hrq_1⟩, by rw [ht]; exact hP9, va_K.moved hW.alike hK9, hD9⟩, hS.F ht⟩) hS.2.2 dX13_classOf_25
def jn_vm_typeOf_56 (nf : Nat) (a1 : Int32) (a2 : Int32) (a3 : Int32) (v9 : Int32) (v10 : Int32) (v24 : Int32) (f5 : Nat → Int32) (f6 : Nat → Int32) (f2 : Nat → Int32) (f25 : Nat → Int32) (nS477 : Nat) (fS477 : Nat → Int32)  (l3_56 : Int32) (l4_56 : Int32) (x10_56 : Int32) (x9_56 : Int32) : Option (Int32 × Int32 × Int32) := (if l3_56 = 0 then (some (((8 + (2 * l4_56)) + 0), x10_56, x9_56)) else (some (((8 + (2 * l4_56)) + 1), x10_56, x9_56)))
def sp_vm_typeOf (nf : Nat) (a1 : Int32) (a2 : Int32) (a3 : Int32) (v9 : Int32) (v10 : Int32) (v24 : Int32) (f5 : Nat → Int32) (f6 : Nat → Int32) (f2 : Nat → Int32) (f25 : Nat → Int32) (nS477 : Nat) (fS477 : Nat → Int32) : Option (Int32 × Int32 × Int32) := (if v9 = 0 then (if a1 = 0 then (if a3 = 0 then (some (0, v10, v9)) else (some (4, v10, v9))) else (if a1 = 1 then (some (1, v10, v9)) else (if a1 = 2 then (some (3, v10, v9)) else ((sp_vm_classOf nf a2 v24 f5 f6 f2 f25 nS477 fS477).bind (fun p1 => (if p1 = (-1) then ((sp_tm_wrong nf 5 a2 v9 v10 f5).bind (fun p2 => (jn_vm_typeOf_56 nf a1 a2 a3 v9 v10 v24 f5 f6 f2 f25 nS477 fS477  a3 p1 p2.1 p2.2))) else (jn_vm_typeOf_56 nf a1 a2 a3 v9 v10 v24 f5 f6 f2 f25 nS477 fS477  a3 p1 v10 v9))))))) else (some (0, v10, v9)))
set_option maxHeartbeats 4000000 in
set_option maxRecDepth 100000 in
/-- ClassMillModel.typeOf -/
theorem vm_typeOf (l : Launch) (dC : Nat → ClassId) (dI : Nat → Nat → Nat) (sz : Nat) (h0 : Nat) (zs : (List Value)) (a1 : Int32) (a2 : Int32) (a3 : Int32) (qf2 : Nat) (qf5 : Nat) (qf6 : Nat) (v9 : Int32) (v10 : Int32) (v24 : Int32) (qf25 : Nat) (cf5 : ClassId) (f5 : (Nat → Int32)) (cf6 : ClassId) (f6 : (Nat → Int32)) (cf2 : ClassId) (f2 : (Nat → Int32)) (cf25 : ClassId) (f25 : (Nat → Int32)) (nS477 : Nat) (fS477 : (Nat → Int32)) (hS477 : Nat) (qS477 : Nat) (tS477 : String) (nf : Nat) (r0 : Int32) (w10 : Int32) (w9 : Int32) (hlen : zs.length = 155) (hf2 : zs[2]? = some (.ref qf2)) (hf5 : zs[5]? = some (.ref qf5)) (hf6 : zs[6]? = some (.ref qf6)) (hf9 : zs[9]? = some (.int v9)) (hf10 : zs[10]? = some (.int v10)) (hf24 : zs[24]? = some (.int v24)) (hf25 : zs[25]? = some (.ref qf25)) (hsp : sp_vm_typeOf nf a1 a2 a3 v9 v10 v24 f5 f6 f2 f25 nS477 fS477 = some (r0, w10, w9)) : Met l yX13_typeOf (.code yX13_typeOf cX13_typeOf 5 (some .int) :: VS_h9) ({ frames := 6, cells := 0, slots := 0, locals := 135 }) (va_Pc [.ref h0, .int a1, .int a2, .int a3] (fun U => U.heap.size = sz ∧ va_P (dC, dI) vwCl [(h0, .inr (13, zs)), (qf5, .inl (cf5, 3002, .inl f5)), (qf6, .inl (cf6, 3002, .inl f6)), (qf2, .inl (cf2, 3000, .inl f2)), (qf25, .inl (cf25, 400, .inl f25))] U.heap ∧ va_K (dC, dI) vwCl [(cf5, .int), (cf6, .int), (cf2, .int), (cf25, .int)] U ∧ va_D (fun _ => True) [(h0, .inr (13, zs)), (qf5, .inl (cf5, 3002, .inl f5)), (qf6, .inl (cf6, 3002, .inl f6)), (qf2, .inl (cf2, 3000, .inl f2)), (qf25, .inl (cf25, 400, .inl f25))] ∧ pz_W nS477 fS477 hS477 qS477 (va_A [(h0, .inr (13, zs)), (qf5, .inl (cf5, 3002, .inl f5)), (qf6, .inl (cf6, 3002, .inl f6)), (qf2, .inl (cf2, 3000, .inl f2)), (qf25, .inl (cf25, 400, .inl f25))] sz) U U.heap ∧ vk_R RX13 477 tS477 hS477 U)) (va_Qi (fun (r : Int32) (u : (List Value)) => match u with | (zo1) => r0 = r ∧ zo1.length = 155 ∧ (∀ j : Nat, j ≠ 10 → j ≠ 9 → zo1[j]? = zs[j]?) ∧ zo1[10]? = some (.int w10) ∧ zo1[9]? = some (.int w9)) (fun (u : (List Value)) (t : State) => match u with | (zo1) => va_P (dC, dI) vwCl [(h0, .inr (13, zo1)), (qf5, .inl (cf5, 3002, .inl f5)), (qf6, .inl (cf6, 3002, .inl f6)), (qf2, .inl (cf2, 3000, .inl f2)), (qf25, .inl (cf25, 400, .inl f25))] t.heap ∧ va_K (dC, dI) vwCl [(cf5, .int), (cf6, .int), (cf2, .int), (cf25, .int)] t ∧ va_D (va_A [(h0, .inr (13, zs)), (qf5, .inl (cf5, 3002, .inl f5)), (qf6, .inl (cf6, 3002, .inl f6)), (qf2, .inl (cf2, 3000, .inl f2)), (qf25, .inl (cf25, 400, .inl f25))] sz) [(h0, .inr (13, zo1)), (qf5, .inl (cf5, 3002, .inl f5)), (qf6, .inl (cf6, 3002, .inl f6)), (qf2, .inl (cf2, 3000, .inl f2)), (qf25, .inl (cf25, 400, .inl f25))]) (va_A [(h0, .inr (13, zs)), (qf5, .inl (cf5, 3002, .inl f5)), (qf6, .inl (cf6, 3002, .inl f6)), (qf2, .inl (cf2, 3000, .inl f2)), (qf25, .inl (cf25, 400, .inl f25))] sz)) 0 0 (va_A [(h0, .inr (13, zs)), (qf5, .inl (cf5, 3002, .inl f5)), (qf6, .inl (cf6, 3002, .inl f6)), (qf2, .inl (cf2, 3000, .inl f2)), (qf25, .inl (cf25, 400, .inl f25))] sz) := by
  refine Met.ofW (cc := cX13_typeOf) (maxL := 5) (ret := (some .int)) (by decide) rfl ?_
  intro p e s m args below meth c s₁ B hml hv
  obtain ⟨rfl, hsz, hP, hK, hD0, hZWS477, hZRS477⟩ := hv
  have hx := B.exec
  have hb := B.bytes
  have hr := B.returns
  have hts := atoms_spec (ws := (.code yX13_typeOf cX13_typeOf 5 (some .int) :: VS_h9)) B.pre
  replace hts := fun w (h : w ∈ VS_h9) => hts w (List.mem_cons_of_mem _ h)
  have hown : s.vm.findClass RX13 = some m.cls := findClass_of_methodNamed B.named
  have hlocks := B.notSynchronized
  subst hsz
  have hD := hD0.self (sz := s.heap.size)
  generalize hAe : va_A [(h0, .inr (13, zs)), (qf5, .inl (cf5, 3002, .inl f5)), (qf6, .inl (cf6, 3002, .inl f6)), (qf2, .inl (cf2, 3000, .inl f2)), (qf25, .inl (cf25, 400, .inl f25))] s.heap.size = A at hD hZWS477 ⊢
  have hA : ∀ q : Nat, s.heap.size ≤ q → A q := fun q h => by rw [← hAe]; exact Or.inr h
  have hP : va_P (dC, dI) vwCl [(h0, .inr (13, zs)), (qf5, .inl (cf5, 3002, .inl f5)), (qf6, .inl (cf6, 3002, .inl f6)), (qf2, .inl (cf2, 3000, .inl f2)), (qf25, .inl (cf25, 400, .inl f25))] s.heap := hP
  have hl := lv_entry ([.ref h0, .int a1, .int a2, .int a3]) (n := 5) (Nat.le_of_ble_eq_true rfl)
  rw [lg_entry_eq]
  generalize (lg_sl ([.ref h0, .int a1, .int a2, .int a3]) ++ List.replicate (5 - (lg_sl ([.ref h0, .int a1, .int a2, .int a3])).length) Slot.unset).toArray = ls at hl ⊢
  have hl : lv_has ls 5 [(0, .ref h0), (1, .int a1), (2, .int a2), (3, .int a3)] := hl
  obtain ⟨H, hH⟩ : ∃ H : Heap, s.heap = H := ⟨_, rfl⟩
  rw [hH] at hP ⊢
  have hS : va_S A s.heap H [] := by rw [← hH]; exact va_S.rf
  obtain ⟨locs, hlo⟩ : ∃ locs : List Loc, locs = [] := ⟨_, rfl⟩
  rw [← hlo] at hS ⊢
  have hrs0 : ∀ j : Nat, j ≠ 10 → j ≠ 9 → zs[j]? = zs[j]? := fun _ _ _  => rfl
  unfold sp_vm_typeOf at hsp
  refine jn_use (α := Heap × List Loc × Array Slot × List Value × Int32 × Int32 × Int32 × Int32) (fun x9 => x9.1) (fun x9 => x9.2.1) (fun x9 => F0 m 56 x9.2.2.1 []) (fun x9 => match x9 with | (H, locs, ls, z56, l3_56, l4_56, x10_56, x9_56) => lv_has ls 5 [(3, .int l3_56), (4, .int l4_56)] ∧ va_S A s.heap H locs ∧ va_D A [(h0, .inr (13, z56)), (qf5, .inl (cf5, 3002, .inl f5)), (qf6, .inl (cf6, 3002, .inl f6)), (qf2, .inl (cf2, 3000, .inl f2)), (qf25, .inl (cf25, 400, .inl f25))] ∧ va_P (dC, dI) vwCl [(h0, .inr (13, z56)), (qf5, .inl (cf5, 3002, .inl f5)), (qf6, .inl (cf6, 3002, .inl f6)), (qf2, .inl (cf2, 3000, .inl f2)), (qf25, .inl (cf25, 400, .inl f25))] H ∧ z56[2]? = some (.ref qf2) ∧ z56[5]? = some (.ref qf5) ∧ z56[6]? = some (.ref qf6) ∧ z56[9]? = some (.int x9_56) ∧ z56[10]? = some (.int x10_56) ∧ z56[24]? = some (.int v24) ∧ z56[25]? = some (.ref qf25) ∧ z56.length = 155 ∧ (∀ j : Nat, j ≠ 10 → j ≠ 9 → z56[j]? = zs[j]?) ∧ jn_vm_typeOf_56 nf a1 a2 a3 v9 v10 v24 f5 f6 f2 f25 nS477 fS477 l3_56 l4_56 x10_56 x9_56 = some (r0, w10, w9)) ?_ ?_
  · intro x9 hJ9
    obtain ⟨H, locs, ls, z56, l3_56, l4_56, x10_56, x9_56⟩ := x9
    obtain ⟨hl, hS, hD, hP, hfh_56_2, hfh_56_5, hfh_56_6, hfh_56_9, hfh_56_10, hfh_56_24, hfh_56_25, hlh_56, hrh_56, hsp⟩ := hJ9
    replace hl : lv_has ls 5 [(3, .int l3_56), (4, .int l4_56)] := hl
    replace hS : va_S A s.heap H locs := hS
    replace hD : va_D A [(h0, .inr (13, z56)), (qf5, .inl (cf5, 3002, .inl f5)), (qf6, .inl (cf6, 3002, .inl f6)), (qf2, .inl (cf2, 3000, .inl f2)), (qf25, .inl (cf25, 400, .inl f25))] := hD
    replace hP : va_P (dC, dI) vwCl [(h0, .inr (13, z56)), (qf5, .inl (cf5, 3002, .inl f5)), (qf6, .inl (cf6, 3002, .inl f6)), (qf2, .inl (cf2, 3000, .inl f2)), (qf25, .inl (cf25, 400, .inl f25))] H := hP
    replace hsp : jn_vm_typeOf_56 nf a1 a2 a3 v9 v10 v24 f5 f6 f2 f25 nS477 fS477 l3_56 l4_56 x10_56 x9_56 = some (r0, w10, w9) := hsp
    show W _ _ _ _ _ _ _ _ _ _ H locs _ _ _ (F0 m 56 ls [])
    unfold jn_vm_typeOf_56 at hsp
    try dsimp only at hsp
    refine lv_bipush (v := 8) hx hb dX13_typeOf_56 (by decide) ?_
    refine lv_iconst (v := 2) hx hb dX13_typeOf_58 (by decide) ?_
    refine lv_iload hx hb dX13_typeOf_59 (lv_at hl 1 rfl) ?_
    refine lv_imul hx hb dX13_typeOf_61 ?_
    refine lv_iadd hx hb dX13_typeOf_62 ?_
    refine lv_iload_n hx hb dX13_typeOf_63 rfl (lv_at hl 0 rfl) ?_
    refine lv_if_eq (tgt := 71) hx hb dX13_typeOf_64 (by decide) (fun c_8 => ?_) (fun c_8 => ?_)
    · rw [if_pos c_8] at hsp
      refine lv_iconst (v := 0) hx hb dX13_typeOf_71 (by decide) ?_
      refine lv_iadd hx hb dX13_typeOf_72 ?_
      have hr0 := Option.some.inj hsp
      clear hsp
      obtain ⟨hq0, hr1⟩ := Prod.mk.inj hr0
      clear hr0
      obtain ⟨hq1, hr2⟩ := Prod.mk.inj hr1
      clear hr1
      subst hq0
      subst hq1
      subst hr2
      have hP9 := hP.sub (ws' := [(h0, .inr (13, z56)), (qf5, .inl (cf5, 3002, .inl f5)), (qf6, .inl (cf6, 3002, .inl f6)), (qf2, .inl (cf2, 3000, .inl f2)), (qf25, .inl (cf25, 400, .inl f25))]) [0, 1, 2, 3, 4] rfl
      have hD9 := hD.sub (ws' := [(h0, .inr (13, z56)), (qf5, .inl (cf5, 3002, .inl f5)), (qf6, .inl (cf6, 3002, .inl f6)), (qf2, .inl (cf2, 3000, .inl f2)), (qf25, .inl (cf25, 400, .inl f25))]) [0, 1, 2, 3, 4] (by decide) rfl
      have hK9 := hK.sub (tys' := [(cf5, .int), (cf6, .int), (cf2, .int), (cf25, .int)]) [0, 1, 2, 3] rfl
      exact W.iret hx hb hr (fun t ht hW => ⟨⟨(((8 + (2 * l4_56)) + 0)), (z56), rfl, ⟨rfl, hlh_56, hrh_56, hfh_56_10, hfh_56_9⟩, by rw [ht]; exact hP9, va_K.moved hW.alike hK9, hD9⟩, hS.F ht⟩) hS.2.2 dX13_typeOf_73
    · rw [if_neg c_8] at hsp
      refine lv_iconst (v := 1) hx hb dX13_typeOf_67 (by decide) ?_
      refine lv_goto (tgt := 72) hx hb dX13_typeOf_68 (by decide) ?_
      refine lv_iadd hx hb dX13_typeOf_72 ?_
      have hr0 := Option.some.inj hsp
      clear hsp
      obtain ⟨hq0, hr1⟩ := Prod.mk.inj hr0
      clear hr0
      obtain ⟨hq1, hr2⟩ := Prod.mk.inj hr1
      clear hr1
      subst hq0
      subst hq1
      subst hr2
      have hP9 := hP.sub (ws' := [(h0, .inr (13, z56)), (qf5, .inl (cf5, 3002, .inl f5)), (qf6, .inl (cf6, 3002, .inl f6)), (qf2, .inl (cf2, 3000, .inl f2)), (qf25, .inl (cf25, 400, .inl f25))]) [0, 1, 2, 3, 4] rfl
      have hD9 := hD.sub (ws' := [(h0, .inr (13, z56)), (qf5, .inl (cf5, 3002, .inl f5)), (qf6, .inl (cf6, 3002, .inl f6)), (qf2, .inl (cf2, 3000, .inl f2)), (qf25, .inl (cf25, 400, .inl f25))]) [0, 1, 2, 3, 4] (by decide) rfl
      have hK9 := hK.sub (tys' := [(cf5, .int), (cf6, .int), (cf2, .int), (cf25, .int)]) [0, 1, 2, 3] rfl
      exact W.iret hx hb hr (fun t ht hW => ⟨⟨(((8 + (2 * l4_56)) + 1)), (z56), rfl, ⟨rfl, hlh_56, hrh_56, hfh_56_10, hfh_56_9⟩, by rw [ht]; exact hP9, va_K.moved hW.alike hK9, hD9⟩, hS.F ht⟩) hS.2.2 dX13_typeOf_73
  intro hj_56
  refine lv_aload_n hx hb dX13_typeOf_0 rfl (lv_at hl 0 rfl) ?_
  refine va_get (D := (dC, dI)) (ci := 13) (v := .int v9) (C := RX13) (T := TX13) (N := 155) hx hb hts uV_h9_X13 hown hK hP 0 rfl rfl 9 (by decide) (hts (.fieldLink RX13 319 "ClassMillModel" "fault" "I") mw_h9_66) (fun _ h9 => h9) hf9 dX13_typeOf_1 ?_
  refine lv_if_eq (tgt := 9) hx hb dX13_typeOf_4 (by decide) (fun c_1 => ?_) (fun c_1 => ?_)
  · rw [if_pos c_1] at hsp
    refine lv_iload_n hx hb dX13_typeOf_9 rfl (lv_at hl 1 rfl) ?_
    refine lv_if_ne (tgt := 23) hx hb dX13_typeOf_10 (by decide) (fun c_2 => ?_) (fun c_2 => ?_)
    · rw [if_neg c_2] at hsp
      refine lv_iload_n hx hb dX13_typeOf_23 rfl (lv_at hl 1 rfl) ?_
      refine lv_iconst (v := 1) hx hb dX13_typeOf_24 (by decide) ?_
      refine lv_icmp_ne (tgt := 30) hx hb dX13_typeOf_25 (by decide) (fun c_3 => ?_) (fun c_3 => ?_)
      · rw [if_neg c_3] at hsp
        refine lv_iload_n hx hb dX13_typeOf_30 rfl (lv_at hl 1 rfl) ?_
        refine lv_iconst (v := 2) hx hb dX13_typeOf_31 (by decide) ?_
        refine lv_icmp_ne (tgt := 37) hx hb dX13_typeOf_32 (by decide) (fun c_4 => ?_) (fun c_4 => ?_)
        · rw [if_neg c_4] at hsp
          refine lv_aload_n hx hb dX13_typeOf_37 rfl (lv_at hl 0 rfl) ?_
          refine lv_iload_n hx hb dX13_typeOf_38 rfl (lv_at hl 2 rfl) ?_
          obtain ⟨u1_0, hu_1, hsp⟩ := ox_bind hsp
          try dsimp only at hsp
          have hPc := hP.sub (ws' := [(h0, .inr (13, zs)), (qf5, .inl (cf5, 3002, .inl f5)), (qf6, .inl (cf6, 3002, .inl f6)), (qf2, .inl (cf2, 3000, .inl f2)), (qf25, .inl (cf25, 400, .inl f25))]) [0, 1, 2, 3, 4] rfl
          have hDc := hD.sub (ws' := [(h0, .inr (13, zs)), (qf5, .inl (cf5, 3002, .inl f5)), (qf6, .inl (cf6, 3002, .inl f6)), (qf2, .inl (cf2, 3000, .inl f2)), (qf25, .inl (cf25, 400, .inl f25))]) [0, 1, 2, 3, 4] (by decide) rfl
          have hKc := hK.sub (tys' := [(cf5, .int), (cf6, .int), (cf2, .int), (cf25, .int)]) [0, 1, 2, 3] rfl
          have hFc := va_free (wc := [(h0, .inr (13, zs)), (qf5, .inl (cf5, 3002, .inl f5)), (qf6, .inl (cf6, 3002, .inl f6)), (qf2, .inl (cf2, 3000, .inl f2)), (qf25, .inl (cf25, 400, .inl f25))]) hD hS hA [0, 1, 2, 3, 4] rfl
          refine va_calli (va_runV (As := [.int a2]) (rest := []) ⟨hx, hb, hml, hown, hts⟩ (vm_classOf l dC dI H.size h0 zs a2 qf2 qf5 qf6 v24 qf25 cf5 f5 cf6 f6 cf2 f2 cf25 f25 nS477 fS477 hS477 qS477 tS477 nf u1_0 hlen hf2 hf5 hf6 hf24 hf25 hu_1) (cwV 1 hts gv_h9_17 rfl rfl rfl (by decide +kernel) ⟨Nat.le_of_ble_eq_true rfl, Nat.le_of_ble_eq_true rfl⟩) ⟨fun a U g mk q => by obtain ⟨q0, q1, qP, qK, qD, qhZWS477, qhZRS477⟩ := q; exact ⟨q0, q1, qP, va_K.moved (u := U) (U := U.calling g mk a) (Vm.Alike.refl U.vm) qK, qD, pz_W.moved (u := U) (U := U.calling g mk a) (Vm.Alike.refl U.vm) qhZWS477, vk_R.same rfl qhZRS477⟩, va_recv hKc hPc (ci := 13) (q0 := 0) rfl rfl, fun U hU hW => ⟨rfl, by rw [hU], by rw [hU]; exact hPc, va_K.moved hW.alike hKc, hDc.weaken (fun _ _ _ _ => trivial), by rw [hU]; exact ((pz_W.moved hW.alike hZWS477).kept hS.2.1).narrow hFc, vk_R.warm hW hZRS477⟩⟩ rfl rfl hl.1 rfl (lv_room (Nat.le_of_ble_eq_true rfl)) dX13_typeOf_39 ⟨Nat.le_of_ble_eq_true rfl, Nat.le_of_ble_eq_true rfl⟩) hS (fun q _ h => hFc q h) hFc ?_
          clear hS
          intro r_5 u t H1 locs ht hvm hw hB hz1 hk1 hS
          obtain ⟨z_1, rfl⟩ : ∃ z, z = u := ⟨_, rfl⟩
          obtain ⟨hP1, hK1, hD1⟩ := hB
          rw [ht] at hP1
          have hK1 := va_K.moved hvm.symm hK1
          try dsimp only at hw
          have hPD := va_join (wr := []) (w1 := [(h0, .inr (13, z_1)), (qf5, .inl (cf5, 3002, .inl f5)), (qf6, .inl (cf6, 3002, .inl f6)), (qf2, .inl (cf2, 3000, .inl f2)), (qf25, .inl (cf25, 400, .inl f25))]) hP hD [0, 1, 2, 3, 4] [] rfl rfl (by decide) (by decide) hk1 hFc hP1 hD1
          clear hP hD
          obtain ⟨hP, hD⟩ := hPD
          replace hK := (hK.sub (tys' := []) [] rfl).app hK1
          clear hPc hDc hKc hFc hP1 hK1 hD1 hz1 hk1 ht hvm
          generalize H1 = H at hP hS ⊢
          replace hP : va_P (dC, dI) vwCl [(h0, .inr (13, z_1)), (qf5, .inl (cf5, 3002, .inl f5)), (qf6, .inl (cf6, 3002, .inl f6)), (qf2, .inl (cf2, 3000, .inl f2)), (qf25, .inl (cf25, 400, .inl f25))] H := hP
          replace hD : va_D A [(h0, .inr (13, z_1)), (qf5, .inl (cf5, 3002, .inl f5)), (qf6, .inl (cf6, 3002, .inl f6)), (qf2, .inl (cf2, 3000, .inl f2)), (qf25, .inl (cf25, 400, .inl f25))] := hD
          replace hK : va_K (dC, dI) vwCl [(cf5, .int), (cf6, .int), (cf2, .int), (cf25, .int)] s := hK
          obtain ⟨hwa_1, hln_1, hre_1⟩ := hw
          have hfk_1_2 : z_1[2]? = some (.ref qf2) := (hre_1 2 ).trans (hf2)
          have hfk_1_5 : z_1[5]? = some (.ref qf5) := (hre_1 5 ).trans (hf5)
          have hfk_1_6 : z_1[6]? = some (.ref qf6) := (hre_1 6 ).trans (hf6)
          have hfk_1_9 : z_1[9]? = some (.int v9) := (hre_1 9 ).trans (hf9)
          have hfk_1_10 : z_1[10]? = some (.int v10) := (hre_1 10 ).trans (hf10)
          have hfk_1_24 : z_1[24]? = some (.int v24) := (hre_1 24 ).trans (hf24)
          have hfk_1_25 : z_1[25]? = some (.ref qf25) := (hre_1 25 ).trans (hf25)
          have hrq_1 : ∀ j : Nat, j ≠ 10 → j ≠ 9 → z_1[j]? = zs[j]? := fun j g10 g9 => (hre_1 j ).trans (hrs0 j g10 g9)
          obtain rfl := hwa_1
          refine lv_istore (lv' := [(4, .int u1_0), (0, .ref h0), (1, .int a1), (2, .int a2), (3, .int a3)]) hx hb dX13_typeOf_42 hl (by decide) rfl (fun ls hl => ?_)
          refine lv_iload hx hb dX13_typeOf_44 (lv_at hl 0 rfl) ?_
          refine lv_iconst (v := (-1)) hx hb dX13_typeOf_46 (by decide) ?_
          refine lv_icmp_ne (tgt := 56) hx hb dX13_typeOf_47 (by decide) (fun c_6 => ?_) (fun c_6 => ?_)
          · rw [if_neg c_6] at hsp
            exact hj_56 (H, locs, ls, z_1, a3, u1_0, v10, v9) ⟨lv_sub hl [4, 0] rfl, hS, hD.sub (ws' := [(h0, .inr (13, z_1)), (qf5, .inl (cf5, 3002, .inl f5)), (qf6, .inl (cf6, 3002, .inl f6)), (qf2, .inl (cf2, 3000, .inl f2)), (qf25, .inl (cf25, 400, .inl f25))]) [0, 1, 2, 3, 4] (by decide) rfl, hP.sub (ws' := [(h0, .inr (13, z_1)), (qf5, .inl (cf5, 3002, .inl f5)), (qf6, .inl (cf6, 3002, .inl f6)), (qf2, .inl (cf2, 3000, .inl f2)), (qf25, .inl (cf25, 400, .inl f25))]) [0, 1, 2, 3, 4] rfl, hfk_1_2, hfk_1_5, hfk_1_6, hfk_1_9, hfk_1_10, hfk_1_24, hfk_1_25, hln_1, hrq_1, hsp⟩
          · rw [if_pos c_6] at hsp
            refine lv_aload_n hx hb dX13_typeOf_50 rfl (lv_at hl 1 rfl) ?_
            refine lv_iconst (v := 5) hx hb dX13_typeOf_51 (by decide) ?_
            refine lv_iload_n hx hb dX13_typeOf_52 rfl (lv_at hl 3 rfl) ?_
            obtain ⟨⟨u2_0, u2_1⟩, hu_2, hsp⟩ := ox_bind hsp
            try dsimp only at hsp
            have hPc := hP.sub (ws' := [(h0, .inr (13, z_1)), (qf5, .inl (cf5, 3002, .inl f5))]) [0, 1] rfl
            have hDc := hD.sub (ws' := [(h0, .inr (13, z_1)), (qf5, .inl (cf5, 3002, .inl f5))]) [0, 1] (by decide) rfl
            have hKc := hK.sub (tys' := [(cf5, .int)]) [0] rfl
            have hFc := va_free (wc := [(h0, .inr (13, z_1)), (qf5, .inl (cf5, 3002, .inl f5))]) hD hS hA [0, 1] rfl
            refine va_callv (va_runV (As := [.int 5, .int a2]) (rest := []) ⟨hx, hb, hml, hown, hts⟩ (tm_wrong l dC dI H.size h0 z_1 5 a2 qf5 v9 v10 cf5 f5 nf u2_0 u2_1 hln_1 hfk_1_5 hfk_1_9 hfk_1_10 hu_2) (cwV 2 hts gv_h9_18 rfl rfl rfl (by decide +kernel) ⟨Nat.le_of_ble_eq_true rfl, Nat.le_of_ble_eq_true rfl⟩) ⟨fun a U g mk q => by obtain ⟨q0, q1, qP, qK, qD⟩ := q; exact ⟨q0, q1, qP, va_K.moved (u := U) (U := U.calling g mk a) (Vm.Alike.refl U.vm) qK, qD⟩, va_recv hKc hPc (ci := 13) (q0 := 0) rfl rfl, fun U hU hW => ⟨rfl, by rw [hU], by rw [hU]; exact hPc, va_K.moved hW.alike hKc, hDc.weaken (fun _ _ _ _ => trivial)⟩⟩ rfl rfl hl.1 rfl (lv_room (Nat.le_of_ble_eq_true rfl)) dX13_typeOf_53 ⟨Nat.le_of_ble_eq_true rfl, Nat.le_of_ble_eq_true rfl⟩) hS (fun q _ h => hFc q h) hFc ?_
            clear hS
            intro u t H1 locs ht hvm hw hB hz1 hk1 hS
            obtain ⟨z_2, rfl⟩ : ∃ z, z = u := ⟨_, rfl⟩
            obtain ⟨hP1, hK1, hD1⟩ := hB
            rw [ht] at hP1
            have hK1 := va_K.moved hvm.symm hK1
            try dsimp only at hw
            have hPD := va_join (wr := [(qf6, .inl (cf6, 3002, .inl f6)), (qf2, .inl (cf2, 3000, .inl f2)), (qf25, .inl (cf25, 400, .inl f25))]) (w1 := [(h0, .inr (13, z_2)), (qf5, .inl (cf5, 3002, .inl f5))]) hP hD [0, 1] [2, 3, 4] rfl rfl (by decide) (by decide) hk1 hFc hP1 hD1
            clear hP hD
            obtain ⟨hP, hD⟩ := hPD
            replace hK := (hK.sub (tys' := [(cf6, .int), (cf2, .int), (cf25, .int)]) [1, 2, 3] rfl).app hK1
            clear hPc hDc hKc hFc hP1 hK1 hD1 hz1 hk1 ht hvm
            generalize H1 = H at hP hS ⊢
            replace hP : va_P (dC, dI) vwCl [(qf6, .inl (cf6, 3002, .inl f6)), (qf2, .inl (cf2, 3000, .inl f2)), (qf25, .inl (cf25, 400, .inl f25)), (h0, .inr (13, z_2)), (qf5, .inl (cf5, 3002, .inl f5))] H := hP
            replace hD : va_D A [(qf6, .inl (cf6, 3002, .inl f6)), (qf2, .inl (cf2, 3000, .inl f2)), (qf25, .inl (cf25, 400, .inl f25)), (h0, .inr (13, z_2)), (qf5, .inl (cf5, 3002, .inl f5))] := hD
            replace hK : va_K (dC, dI) vwCl [(cf6, .int), (cf2, .int), (cf25, .int), (cf5, .int)] s := hK
            obtain ⟨hwa_2, hln_2, hre_2, hch_2_10, hch_2_9⟩ := hw
            have hfk_2_2 : z_2[2]? = some (.ref qf2) := (hre_2 2 (by decide) (by decide)).trans (hfk_1_2)
            have hfk_2_5 : z_2[5]? = some (.ref qf5) := (hre_2 5 (by decide) (by decide)).trans (hfk_1_5)
            have hfk_2_6 : z_2[6]? = some (.ref qf6) := (hre_2 6 (by decide) (by decide)).trans (hfk_1_6)
            have hfk_2_24 : z_2[24]? = some (.int v24) := (hre_2 24 (by decide) (by decide)).trans (hfk_1_24)
            have hfk_2_25 : z_2[25]? = some (.ref qf25) := (hre_2 25 (by decide) (by decide)).trans (hfk_1_25)
            have hrq_2 : ∀ j : Nat, j ≠ 10 → j ≠ 9 → z_2[j]? = zs[j]? := fun j g10 g9 => (hre_2 j g10 g9).trans (hrq_1 j g10 g9)
            exact hj_56 (H, locs, ls, z_2, a3, u1_0, u2_0, u2_1) ⟨lv_sub hl [4, 0] rfl, hS, hD.sub (ws' := [(h0, .inr (13, z_2)), (qf5, .inl (cf5, 3002, .inl f5)), (qf6, .inl (cf6, 3002, .inl f6)), (qf2, .inl (cf2, 3000, .inl f2)), (qf25, .inl (cf25, 400, .inl f25))]) [3, 4, 0, 1, 2] (by decide) rfl, hP.sub (ws' := [(h0, .inr (13, z_2)), (qf5, .inl (cf5, 3002, .inl f5)), (qf6, .inl (cf6, 3002, .inl f6)), (qf2, .inl (cf2, 3000, .inl f2)), (qf25, .inl (cf25, 400, .inl f25))]) [3, 4, 0, 1, 2] rfl, hfk_2_2, hfk_2_5, hfk_2_6, hch_2_9, hch_2_10, hfk_2_24, hfk_2_25, hln_2, hrq_2, hsp⟩
        · rw [if_pos c_4] at hsp
          refine lv_iconst (v := 3) hx hb dX13_typeOf_35 (by decide) ?_
          have hr0 := Option.some.inj hsp
          clear hsp
          obtain ⟨hq0, hr1⟩ := Prod.mk.inj hr0
          clear hr0
          obtain ⟨hq1, hr2⟩ := Prod.mk.inj hr1
          clear hr1
          subst hq0
          subst hq1
          subst hr2
          have hP9 := hP.sub (ws' := [(h0, .inr (13, zs)), (qf5, .inl (cf5, 3002, .inl f5)), (qf6, .inl (cf6, 3002, .inl f6)), (qf2, .inl (cf2, 3000, .inl f2)), (qf25, .inl (cf25, 400, .inl f25))]) [0, 1, 2, 3, 4] rfl
          have hD9 := hD.sub (ws' := [(h0, .inr (13, zs)), (qf5, .inl (cf5, 3002, .inl f5)), (qf6, .inl (cf6, 3002, .inl f6)), (qf2, .inl (cf2, 3000, .inl f2)), (qf25, .inl (cf25, 400, .inl f25))]) [0, 1, 2, 3, 4] (by decide) rfl
          have hK9 := hK.sub (tys' := [(cf5, .int), (cf6, .int), (cf2, .int), (cf25, .int)]) [0, 1, 2, 3] rfl
          exact W.iret hx hb hr (fun t ht hW => ⟨⟨(3), (zs), rfl, ⟨rfl, hlen, hrs0, hf10, hf9⟩, by rw [ht]; exact hP9, va_K.moved hW.alike hK9, hD9⟩, hS.F ht⟩) hS.2.2 dX13_typeOf_36
      · rw [if_pos c_3] at hsp
        refine lv_iconst (v := 1) hx hb dX13_typeOf_28 (by decide) ?_
        have hr0 := Option.some.inj hsp
        clear hsp
        obtain ⟨hq0, hr1⟩ := Prod.mk.inj hr0
        clear hr0
        obtain ⟨hq1, hr2⟩ := Prod.mk.inj hr1
        clear hr1
        subst hq0
        subst hq1
        subst hr2
        have hP9 := hP.sub (ws' := [(h0, .inr (13, zs)), (qf5, .inl (cf5, 3002, .inl f5)), (qf6, .inl (cf6, 3002, .inl f6)), (qf2, .inl (cf2, 3000, .inl f2)), (qf25, .inl (cf25, 400, .inl f25))]) [0, 1, 2, 3, 4] rfl
        have hD9 := hD.sub (ws' := [(h0, .inr (13, zs)), (qf5, .inl (cf5, 3002, .inl f5)), (qf6, .inl (cf6, 3002, .inl f6)), (qf2, .inl (cf2, 3000, .inl f2)), (qf25, .inl (cf25, 400, .inl f25))]) [0, 1, 2, 3, 4] (by decide) rfl
        have hK9 := hK.sub (tys' := [(cf5, .int), (cf6, .int), (cf2, .int), (cf25, .int)]) [0, 1, 2, 3] rfl
        exact W.iret hx hb hr (fun t ht hW => ⟨⟨(1), (zs), rfl, ⟨rfl, hlen, hrs0, hf10, hf9⟩, by rw [ht]; exact hP9, va_K.moved hW.alike hK9, hD9⟩, hS.F ht⟩) hS.2.2 dX13_typeOf_29
    · rw [if_pos c_2] at hsp
      refine lv_iload_n hx hb dX13_typeOf_13 rfl (lv_at hl 3 rfl) ?_
      refine lv_if_eq (tgt := 21) hx hb dX13_typeOf_14 (by decide) (fun c_7 => ?_) (fun c_7 => ?_)
      · rw [if_pos c_7] at hsp
        refine lv_iconst (v := 0) hx hb dX13_typeOf_21 (by decide) ?_
        have hr0 := Option.some.inj hsp
        clear hsp
        obtain ⟨hq0, hr1⟩ := Prod.mk.inj hr0
        clear hr0
        obtain ⟨hq1, hr2⟩ := Prod.mk.inj hr1
        clear hr1
        subst hq0
        subst hq1
        subst hr2
        have hP9 := hP.sub (ws' := [(h0, .inr (13, zs)), (qf5, .inl (cf5, 3002, .inl f5)), (qf6, .inl (cf6, 3002, .inl f6)), (qf2, .inl (cf2, 3000, .inl f2)), (qf25, .inl (cf25, 400, .inl f25))]) [0, 1, 2, 3, 4] rfl
        have hD9 := hD.sub (ws' := [(h0, .inr (13, zs)), (qf5, .inl (cf5, 3002, .inl f5)), (qf6, .inl (cf6, 3002, .inl f6)), (qf2, .inl (cf2, 3000, .inl f2)), (qf25, .inl (cf25, 400, .inl f25))]) [0, 1, 2, 3, 4] (by decide) rfl
        have hK9 := hK.sub (tys' := [(cf5, .int), (cf6, .int), (cf2, .int), (cf25, .int)]) [0, 1, 2, 3] rfl
        exact W.iret hx hb hr (fun t ht hW => ⟨⟨(0), (zs), rfl, ⟨rfl, hlen, hrs0, hf10, hf9⟩, by rw [ht]; exact hP9, va_K.moved hW.alike hK9, hD9⟩, hS.F ht⟩) hS.2.2 dX13_typeOf_22
      · rw [if_neg c_7] at hsp
        refine lv_iconst (v := 4) hx hb dX13_typeOf_17 (by decide) ?_
        refine lv_goto (tgt := 22) hx hb dX13_typeOf_18 (by decide) ?_
        have hr0 := Option.some.inj hsp
        clear hsp
        obtain ⟨hq0, hr1⟩ := Prod.mk.inj hr0
        clear hr0
        obtain ⟨hq1, hr2⟩ := Prod.mk.inj hr1
        clear hr1
        subst hq0
        subst hq1
        subst hr2
        have hP9 := hP.sub (ws' := [(h0, .inr (13, zs)), (qf5, .inl (cf5, 3002, .inl f5)), (qf6, .inl (cf6, 3002, .inl f6)), (qf2, .inl (cf2, 3000, .inl f2)), (qf25, .inl (cf25, 400, .inl f25))]) [0, 1, 2, 3, 4] rfl
        have hD9 := hD.sub (ws' := [(h0, .inr (13, zs)), (qf5, .inl (cf5, 3002, .inl f5)), (qf6, .inl (cf6, 3002, .inl f6)), (qf2, .inl (cf2, 3000, .inl f2)), (qf25, .inl (cf25, 400, .inl f25))]) [0, 1, 2, 3, 4] (by decide) rfl
        have hK9 := hK.sub (tys' := [(cf5, .int), (cf6, .int), (cf2, .int), (cf25, .int)]) [0, 1, 2, 3] rfl
        exact W.iret hx hb hr (fun t ht hW => ⟨⟨(4), (zs), rfl, ⟨rfl, hlen, hrs0, hf10, hf9⟩, by rw [ht]; exact hP9, va_K.moved hW.alike hK9, hD9⟩, hS.F ht⟩) hS.2.2 dX13_typeOf_22
  · rw [if_neg c_1] at hsp
    refine lv_iconst (v := 0) hx hb dX13_typeOf_7 (by decide) ?_
    have hr0 := Option.some.inj hsp
    clear hsp
    obtain ⟨hq0, hr1⟩ := Prod.mk.inj hr0
    clear hr0
    obtain ⟨hq1, hr2⟩ := Prod.mk.inj hr1
    clear hr1
    subst hq0
    subst hq1
    subst hr2
    have hP9 := hP.sub (ws' := [(h0, .inr (13, zs)), (qf5, .inl (cf5, 3002, .inl f5)), (qf6, .inl (cf6, 3002, .inl f6)), (qf2, .inl (cf2, 3000, .inl f2)), (qf25, .inl (cf25, 400, .inl f25))]) [0, 1, 2, 3, 4] rfl
    have hD9 := hD.sub (ws' := [(h0, .inr (13, zs)), (qf5, .inl (cf5, 3002, .inl f5)), (qf6, .inl (cf6, 3002, .inl f6)), (qf2, .inl (cf2, 3000, .inl f2)), (qf25, .inl (cf25, 400, .inl f25))]) [0, 1, 2, 3, 4] (by decide) rfl
    have hK9 := hK.sub (tys' := [(cf5, .int), (cf6, .int), (cf2, .int), (cf25, .int)]) [0, 1, 2, 3] rfl
    exact W.iret hx hb hr (fun t ht hW => ⟨⟨(0), (zs), rfl, ⟨rfl, hlen, hrs0, hf10, hf9⟩, by rw [ht]; exact hP9, va_K.moved hW.alike hK9, hD9⟩, hS.F ht⟩) hS.2.2 dX13_typeOf_8
def jn_vm_memberHead_86 (nf : Nat) (a1 : Int32) (v9 : Int32) (v10 : Int32) (v24 : Int32) (f31 : Nat → Int32) (f32 : Nat → Int32) (f33 : Nat → Int32) (f5 : Nat → Int32) (f6 : Nat → Int32) (f2 : Nat → Int32) (f25 : Nat → Int32) (f35 : Nat → Int32) (f34 : Nat → Int32) (f29 : Nat → Int32) (f30 : Nat → Int32) (f37 : Nat → Int32) (f36 : Nat → Int32) (f40 : Nat → Int32) (f41 : Nat → Int32) (f42 : Nat → Int32) (f44 : Nat → Int32) (f43 : Nat → Int32) (nS477 : Nat) (fS477 : Nat → Int32) (kk_35 : Int32 → Int32 → Int32 → Int32 → (Nat → Int32) → (Nat → Int32) → Int32 → Int32 → Option ((Nat → Int32) × (Nat → Int32) × Int32 × Int32)) (l1_86 : Int32) (l2_86 : Int32) (l3_86 : Int32) (l4_86 : Int32) (s0_86 : Int32) (s1_86 : Int32) (g35_86 : Nat → Int32) (g44_86 : Nat → Int32) (x10_86 : Int32) (x9_86 : Int32) : Option ((Nat → Int32) × (Nat → Int32) × Int32 × Int32) := (if s1_86 = s0_86 then (if l4_86 < 0 then none else if 800 ≤ (l4_86 : Int32).toNatClampNeg then none else (if l1_86 < 0 then none else if 800 ≤ (l1_86 : Int32).toNatClampNeg then none else ((sp_tn_isLike nf (f34 (l4_86 : Int32).toNatClampNeg) (f34 (l1_86 : Int32).toNatClampNeg) f6 f5 f2).bind (fun p1 => (if p1 = 0 then (kk_35 l1_86 (l2_86 + 1) (l3_86 ||| 0) (l4_86 + 1) g35_86 g44_86 x10_86 x9_86) else (kk_35 l1_86 (l2_86 + 1) (l3_86 ||| 1) (l4_86 + 1) g35_86 g44_86 x10_86 x9_86)))))) else (kk_35 l1_86 l2_86 l3_86 (l4_86 + 1) g35_86 g44_86 x10_86 x9_86))
def jn_vm_memberHead_72 (nf : Nat) (a1 : Int32) (v9 : Int32) (v10 : Int32) (v24 : Int32) (f31 : Nat → Int32) (f32 : Nat → Int32) (f33 : Nat → Int32) (f5 : Nat → Int32) (f6 : Nat → Int32) (f2 : Nat → Int32) (f25 : Nat → Int32) (f35 : Nat → Int32) (f34 : Nat → Int32) (f29 : Nat → Int32) (f30 : Nat → Int32) (f37 : Nat → Int32) (f36 : Nat → Int32) (f40 : Nat → Int32) (f41 : Nat → Int32) (f42 : Nat → Int32) (f44 : Nat → Int32) (f43 : Nat → Int32) (nS477 : Nat) (fS477 : Nat → Int32) (kk_35 : Int32 → Int32 → Int32 → Int32 → (Nat → Int32) → (Nat → Int32) → Int32 → Int32 → Option ((Nat → Int32) × (Nat → Int32) × Int32 × Int32)) (l1_72 : Int32) (l2_72 : Int32) (l3_72 : Int32) (l4_72 : Int32) (s0_72 : Int32) (g35_72 : Nat → Int32) (g44_72 : Nat → Int32) (x10_72 : Int32) (x9_72 : Int32) : Option ((Nat → Int32) × (Nat → Int32) × Int32 × Int32) := (if l1_72 < 0 then none else if 800 ≤ (l1_72 : Int32).toNatClampNeg then none else (if (f30 (l1_72 : Int32).toNatClampNeg) ≤ 0 then (jn_vm_memberHead_86 nf a1 v9 v10 v24 f31 f32 f33 f5 f6 f2 f25 f35 f34 f29 f30 f37 f36 f40 f41 f42 f44 f43 nS477 fS477 kk_35 l1_72 l2_72 l3_72 l4_72 0 s0_72 g35_72 g44_72 x10_72 x9_72) else (jn_vm_memberHead_86 nf a1 v9 v10 v24 f31 f32 f33 f5 f6 f2 f25 f35 f34 f29 f30 f37 f36 f40 f41 f42 f44 f43 nS477 fS477 kk_35 l1_72 l2_72 l3_72 l4_72 1 s0_72 g35_72 g44_72 x10_72 x9_72)))
def lp_vm_memberHead_239 (nf n : Nat) (a1 : Int32) (v9 : Int32) (v10 : Int32) (v24 : Int32) (f31 : Nat → Int32) (f32 : Nat → Int32) (f33 : Nat → Int32) (f5 : Nat → Int32) (f6 : Nat → Int32) (f2 : Nat → Int32) (f25 : Nat → Int32) (f35 : Nat → Int32) (f34 : Nat → Int32) (f29 : Nat → Int32) (f30 : Nat → Int32) (f37 : Nat → Int32) (f36 : Nat → Int32) (f40 : Nat → Int32) (f41 : Nat → Int32) (f42 : Nat → Int32) (f44 : Nat → Int32) (f43 : Nat → Int32) (nS477 : Nat) (fS477 : Nat → Int32) (kk_157 : Int32 → Int32 → (Nat → Int32) → (Nat → Int32) → Int32 → Int32 → Option ((Nat → Int32) × (Nat → Int32) × Int32 × Int32)) (l1_239 : Int32) (l4_239 : Int32) (l5_239 : Int32) (l6_239 : Int32) (g35_239 : Nat → Int32) (g44_239 : Nat → Int32) (x10_239 : Int32) (x9_239 : Int32) : Option ((Nat → Int32) × (Nat → Int32) × Int32 × Int32) := match n with
  | 0 => none
  | n + 1 => (if l5_239 ≤ l6_239 then (kk_157 l1_239 (l4_239 + 1) g35_239 g44_239 x10_239 x9_239) else (if l6_239 < 0 then none else if 1500 ≤ (l6_239 : Int32).toNatClampNeg then none else (if l5_239 < 0 then none else if 1500 ≤ (l5_239 : Int32).toNatClampNeg then none else ((sp_tn_isLike nf (f43 (l6_239 : Int32).toNatClampNeg) (f43 (l5_239 : Int32).toNatClampNeg) f6 f5 f2).bind (fun p1 => (if p1 = 0 then (lp_vm_memberHead_239 nf n a1 v9 v10 v24 f31 f32 f33 f5 f6 f2 f25 f35 f34 f29 f30 f37 f36 f40 f41 f42 f44 f43 nS477 fS477 kk_157 l1_239 l4_239 l5_239 (l6_239 + 1) g35_239 g44_239 x10_239 x9_239) else (if l5_239 < 0 then none else if 1500 ≤ (l5_239 : Int32).toNatClampNeg then none else ((sp_tm_wrong nf 4 (f43 (l5_239 : Int32).toNatClampNeg) x9_239 x10_239 f5).bind (fun p2 => (lp_vm_memberHead_239 nf n a1 v9 v10 v24 f31 f32 f33 f5 f6 f2 f25 f35 f34 f29 f30 f37 f36 f40 f41 f42 f44 f43 nS477 fS477 kk_157 l1_239 l4_239 l5_239 (l6_239 + 1) g35_239 g44_239 p2.1 p2.2))))))))))
def jn_vm_memberHead_231 (nf : Nat) (a1 : Int32) (v9 : Int32) (v10 : Int32) (v24 : Int32) (f31 : Nat → Int32) (f32 : Nat → Int32) (f33 : Nat → Int32) (f5 : Nat → Int32) (f6 : Nat → Int32) (f2 : Nat → Int32) (f25 : Nat → Int32) (f35 : Nat → Int32) (f34 : Nat → Int32) (f29 : Nat → Int32) (f30 : Nat → Int32) (f37 : Nat → Int32) (f36 : Nat → Int32) (f40 : Nat → Int32) (f41 : Nat → Int32) (f42 : Nat → Int32) (f44 : Nat → Int32) (f43 : Nat → Int32) (nS477 : Nat) (fS477 : Nat → Int32) (kk_157 : Int32 → Int32 → (Nat → Int32) → (Nat → Int32) → Int32 → Int32 → Option ((Nat → Int32) × (Nat → Int32) × Int32 × Int32)) (l1_231 : Int32) (l4_231 : Int32) (l5_231 : Int32) (g35_231 : Nat → Int32) (g44_231 : Nat → Int32) (x10_231 : Int32) (x9_231 : Int32) : Option ((Nat → Int32) × (Nat → Int32) × Int32 × Int32) := (if l1_231 < 0 then none else if 800 ≤ (l1_231 : Int32).toNatClampNeg then none else (lp_vm_memberHead_239 nf nf a1 v9 v10 v24 f31 f32 f33 f5 f6 f2 f25 f35 f34 f29 f30 f37 f36 f40 f41 f42 f44 f43 nS477 fS477 kk_157 l1_231 l4_231 l5_231 (f36 (l1_231 : Int32).toNatClampNeg) g35_231 g44_231 x10_231 x9_231))
def lp_vm_memberHead_157 (nf n : Nat) (a1 : Int32) (v9 : Int32) (v10 : Int32) (v24 : Int32) (f31 : Nat → Int32) (f32 : Nat → Int32) (f33 : Nat → Int32) (f5 : Nat → Int32) (f6 : Nat → Int32) (f2 : Nat → Int32) (f25 : Nat → Int32) (f35 : Nat → Int32) (f34 : Nat → Int32) (f29 : Nat → Int32) (f30 : Nat → Int32) (f37 : Nat → Int32) (f36 : Nat → Int32) (f40 : Nat → Int32) (f41 : Nat → Int32) (f42 : Nat → Int32) (f44 : Nat → Int32) (f43 : Nat → Int32) (nS477 : Nat) (fS477 : Nat → Int32)  (l1_157 : Int32) (l4_157 : Int32) (g35_157 : Nat → Int32) (g44_157 : Nat → Int32) (x10_157 : Int32) (x9_157 : Int32) : Option ((Nat → Int32) × (Nat → Int32) × Int32 × Int32) := match n with
  | 0 => none
  | n + 1 => (if l1_157 < 0 then none else if 800 ≤ (l1_157 : Int32).toNatClampNeg then none else (if (f37 (l1_157 : Int32).toNatClampNeg) ≤ l4_157 then (some (g35_157, g44_157, x10_157, x9_157)) else (if l1_157 < 0 then none else if 800 ≤ (l1_157 : Int32).toNatClampNeg then none else (if ((f36 (l1_157 : Int32).toNatClampNeg) + l4_157) < 0 then none else if 1500 ≤ (((f36 (l1_157 : Int32).toNatClampNeg) + l4_157) : Int32).toNatClampNeg then none else (if ((f36 (l1_157 : Int32).toNatClampNeg) + l4_157) < 0 then none else if 1500 ≤ (((f36 (l1_157 : Int32).toNatClampNeg) + l4_157) : Int32).toNatClampNeg then none else (if ((f36 (l1_157 : Int32).toNatClampNeg) + l4_157) < 0 then none else if 1500 ≤ (((f36 (l1_157 : Int32).toNatClampNeg) + l4_157) : Int32).toNatClampNeg then none else ((sp_vm_typeOf nf (f40 (((f36 (l1_157 : Int32).toNatClampNeg) + l4_157) : Int32).toNatClampNeg) (f41 (((f36 (l1_157 : Int32).toNatClampNeg) + l4_157) : Int32).toNatClampNeg) (f42 (((f36 (l1_157 : Int32).toNatClampNeg) + l4_157) : Int32).toNatClampNeg) x9_157 x10_157 v24 f5 f6 f2 f25 nS477 fS477).bind (fun p1 => (if ((f36 (l1_157 : Int32).toNatClampNeg) + l4_157) < 0 then none else if 1500 ≤ (((f36 (l1_157 : Int32).toNatClampNeg) + l4_157) : Int32).toNatClampNeg then none else (if l4_157 = 6 then (if ((f36 (l1_157 : Int32).toNatClampNeg) + l4_157) < 0 then none else if 1500 ≤ (((f36 (l1_157 : Int32).toNatClampNeg) + l4_157) : Int32).toNatClampNeg then none else ((sp_tm_wrong nf 11 (f43 (((f36 (l1_157 : Int32).toNatClampNeg) + l4_157) : Int32).toNatClampNeg) p1.2.2 p1.2.1 f5).bind (fun p2 => (jn_vm_memberHead_231 nf a1 v9 v10 v24 f31 f32 f33 f5 f6 f2 f25 f35 f34 f29 f30 f37 f36 f40 f41 f42 f44 f43 nS477 fS477 (lp_vm_memberHead_157 nf n a1 v9 v10 v24 f31 f32 f33 f5 f6 f2 f25 f35 f34 f29 f30 f37 f36 f40 f41 f42 f44 f43 nS477 fS477) l1_157 l4_157 ((f36 (l1_157 : Int32).toNatClampNeg) + l4_157) g35_157 (upd g44_157 (((f36 (l1_157 : Int32).toNatClampNeg) + l4_157) : Int32).toNatClampNeg p1.1) p2.1 p2.2)))) else (jn_vm_memberHead_231 nf a1 v9 v10 v24 f31 f32 f33 f5 f6 f2 f25 f35 f34 f29 f30 f37 f36 f40 f41 f42 f44 f43 nS477 fS477 (lp_vm_memberHead_157 nf n a1 v9 v10 v24 f31 f32 f33 f5 f6 f2 f25 f35 f34 f29 f30 f37 f36 f40 f41 f42 f44 f43 nS477 fS477) l1_157 l4_157 ((f36 (l1_157 : Int32).toNatClampNeg) + l4_157) g35_157 (upd g44_157 (((f36 (l1_157 : Int32).toNatClampNeg) + l4_157) : Int32).toNatClampNeg p1.1) p1.2.1 p1.2.2)))))))))))
def jn_vm_memberHead_154 (nf : Nat) (a1 : Int32) (v9 : Int32) (v10 : Int32) (v24 : Int32) (f31 : Nat → Int32) (f32 : Nat → Int32) (f33 : Nat → Int32) (f5 : Nat → Int32) (f6 : Nat → Int32) (f2 : Nat → Int32) (f25 : Nat → Int32) (f35 : Nat → Int32) (f34 : Nat → Int32) (f29 : Nat → Int32) (f30 : Nat → Int32) (f37 : Nat → Int32) (f36 : Nat → Int32) (f40 : Nat → Int32) (f41 : Nat → Int32) (f42 : Nat → Int32) (f44 : Nat → Int32) (f43 : Nat → Int32) (nS477 : Nat) (fS477 : Nat → Int32)  (l1_154 : Int32) (g35_154 : Nat → Int32) (g44_154 : Nat → Int32) (x10_154 : Int32) (x9_154 : Int32) : Option ((Nat → Int32) × (Nat → Int32) × Int32 × Int32) := (lp_vm_memberHead_157 nf nf a1 v9 v10 v24 f31 f32 f33 f5 f6 f2 f25 f35 f34 f29 f30 f37 f36 f40 f41 f42 f44 f43 nS477 fS477  l1_154 0 g35_154 g44_154 x10_154 x9_154)
def jn_vm_memberHead_139 (nf : Nat) (a1 : Int32) (v9 : Int32) (v10 : Int32) (v24 : Int32) (f31 : Nat → Int32) (f32 : Nat → Int32) (f33 : Nat → Int32) (f5 : Nat → Int32) (f6 : Nat → Int32) (f2 : Nat → Int32) (f25 : Nat → Int32) (f35 : Nat → Int32) (f34 : Nat → Int32) (f29 : Nat → Int32) (f30 : Nat → Int32) (f37 : Nat → Int32) (f36 : Nat → Int32) (f40 : Nat → Int32) (f41 : Nat → Int32) (f42 : Nat → Int32) (f44 : Nat → Int32) (f43 : Nat → Int32) (nS477 : Nat) (fS477 : Nat → Int32)  (l1_139 : Int32) (l3_139 : Int32) (g35_139 : Nat → Int32) (g44_139 : Nat → Int32) (x10_139 : Int32) (x9_139 : Int32) : Option ((Nat → Int32) × (Nat → Int32) × Int32 × Int32) := (if l3_139 = 0 then (jn_vm_memberHead_154 nf a1 v9 v10 v24 f31 f32 f33 f5 f6 f2 f25 f35 f34 f29 f30 f37 f36 f40 f41 f42 f44 f43 nS477 fS477  l1_139 g35_139 g44_139 x10_139 x9_139) else (if l1_139 < 0 then none else if 800 ≤ (l1_139 : Int32).toNatClampNeg then none else ((sp_tm_wrong nf 4 (f34 (l1_139 : Int32).toNatClampNeg) x9_139 x10_139 f5).bind (fun p1 => (jn_vm_memberHead_154 nf a1 v9 v10 v24 f31 f32 f33 f5 f6 f2 f25 f35 f34 f29 f30 f37 f36 f40 f41 f42 f44 f43 nS477 fS477  l1_139 g35_139 g44_139 p1.1 p1.2)))))
def lp_vm_memberHead_35 (nf n : Nat) (a1 : Int32) (v9 : Int32) (v10 : Int32) (v24 : Int32) (f31 : Nat → Int32) (f32 : Nat → Int32) (f33 : Nat → Int32) (f5 : Nat → Int32) (f6 : Nat → Int32) (f2 : Nat → Int32) (f25 : Nat → Int32) (f35 : Nat → Int32) (f34 : Nat → Int32) (f29 : Nat → Int32) (f30 : Nat → Int32) (f37 : Nat → Int32) (f36 : Nat → Int32) (f40 : Nat → Int32) (f41 : Nat → Int32) (f42 : Nat → Int32) (f44 : Nat → Int32) (f43 : Nat → Int32) (nS477 : Nat) (fS477 : Nat → Int32)  (l1_35 : Int32) (l2_35 : Int32) (l3_35 : Int32) (l4_35 : Int32) (g35_35 : Nat → Int32) (g44_35 : Nat → Int32) (x10_35 : Int32) (x9_35 : Int32) : Option ((Nat → Int32) × (Nat → Int32) × Int32 × Int32) := match n with
  | 0 => none
  | n + 1 => (if l1_35 ≤ l4_35 then (if l2_35 = 12 then (if l1_35 < 0 then none else if 800 ≤ (l1_35 : Int32).toNatClampNeg then none else ((sp_tm_wrong nf 11 (f34 (l1_35 : Int32).toNatClampNeg) x9_35 x10_35 f5).bind (fun p1 => (jn_vm_memberHead_139 nf a1 v9 v10 v24 f31 f32 f33 f5 f6 f2 f25 f35 f34 f29 f30 f37 f36 f40 f41 f42 f44 f43 nS477 fS477  l1_35 l3_35 g35_35 g44_35 p1.1 p1.2)))) else (jn_vm_memberHead_139 nf a1 v9 v10 v24 f31 f32 f33 f5 f6 f2 f25 f35 f34 f29 f30 f37 f36 f40 f41 f42 f44 f43 nS477 fS477  l1_35 l3_35 g35_35 g44_35 x10_35 x9_35)) else (if l4_35 < 0 then none else if 800 ≤ (l4_35 : Int32).toNatClampNeg then none else (if l1_35 < 0 then none else if 800 ≤ (l1_35 : Int32).toNatClampNeg then none else (if (f29 (l4_35 : Int32).toNatClampNeg) = (f29 (l1_35 : Int32).toNatClampNeg) then (if l4_35 < 0 then none else if 800 ≤ (l4_35 : Int32).toNatClampNeg then none else (if (f30 (l4_35 : Int32).toNatClampNeg) ≤ 0 then (jn_vm_memberHead_72 nf a1 v9 v10 v24 f31 f32 f33 f5 f6 f2 f25 f35 f34 f29 f30 f37 f36 f40 f41 f42 f44 f43 nS477 fS477 (lp_vm_memberHead_35 nf n a1 v9 v10 v24 f31 f32 f33 f5 f6 f2 f25 f35 f34 f29 f30 f37 f36 f40 f41 f42 f44 f43 nS477 fS477) l1_35 l2_35 l3_35 l4_35 0 g35_35 g44_35 x10_35 x9_35) else (jn_vm_memberHead_72 nf a1 v9 v10 v24 f31 f32 f33 f5 f6 f2 f25 f35 f34 f29 f30 f37 f36 f40 f41 f42 f44 f43 nS477 fS477 (lp_vm_memberHead_35 nf n a1 v9 v10 v24 f31 f32 f33 f5 f6 f2 f25 f35 f34 f29 f30 f37 f36 f40 f41 f42 f44 f43 nS477 fS477) l1_35 l2_35 l3_35 l4_35 1 g35_35 g44_35 x10_35 x9_35))) else (lp_vm_memberHead_35 nf n a1 v9 v10 v24 f31 f32 f33 f5 f6 f2 f25 f35 f34 f29 f30 f37 f36 f40 f41 f42 f44 f43 nS477 fS477 l1_35 l2_35 l3_35 (l4_35 + 1) g35_35 g44_35 x10_35 x9_35)))))
def sp_vm_memberHead (nf : Nat) (a1 : Int32) (v9 : Int32) (v10 : Int32) (v24 : Int32) (f31 : Nat → Int32) (f32 : Nat → Int32) (f33 : Nat → Int32) (f5 : Nat → Int32) (f6 : Nat → Int32) (f2 : Nat → Int32) (f25 : Nat → Int32) (f35 : Nat → Int32) (f34 : Nat → Int32) (f29 : Nat → Int32) (f30 : Nat → Int32) (f37 : Nat → Int32) (f36 : Nat → Int32) (f40 : Nat → Int32) (f41 : Nat → Int32) (f42 : Nat → Int32) (f44 : Nat → Int32) (f43 : Nat → Int32) (nS477 : Nat) (fS477 : Nat → Int32) : Option ((Nat → Int32) × (Nat → Int32) × Int32 × Int32) := (if a1 < 0 then none else if 800 ≤ (a1 : Int32).toNatClampNeg then none else (if a1 < 0 then none else if 800 ≤ (a1 : Int32).toNatClampNeg then none else (if a1 < 0 then none else if 800 ≤ (a1 : Int32).toNatClampNeg then none else ((sp_vm_typeOf nf (f31 (a1 : Int32).toNatClampNeg) (f32 (a1 : Int32).toNatClampNeg) (f33 (a1 : Int32).toNatClampNeg) v9 v10 v24 f5 f6 f2 f25 nS477 fS477).bind (fun p1 => (if a1 < 0 then none else if 800 ≤ (a1 : Int32).toNatClampNeg then none else (lp_vm_memberHead_35 nf nf a1 v9 v10 v24 f31 f32 f33 f5 f6 f2 f25 f35 f34 f29 f30 f37 f36 f40 f41 f42 f44 f43 nS477 fS477  a1 0 0 0 (upd f35 (a1 : Int32).toNatClampNeg p1.1) f44 p1.2.1 p1.2.2)))))))
set_option maxHeartbeats 4000000 in
set_option maxRecDepth 100000 in
/-- ClassMillModel.memberHead -/
theorem vm_memberHead (l : Launch) (dC : Nat → ClassId) (dI : Nat → Nat → Nat) (sz : Nat) (h0 : Nat) (zs : (List Value)) (a1 : Int32) (qf2 : Nat) (qf5 : Nat) (qf6 : Nat) (v9 : Int32) (v10 : Int32) (v24 : Int32) (qf25 : Nat) (qf29 : Nat) (qf30 : Nat) (qf31 : Nat) (qf32 : Nat) (qf33 : Nat) (qf34 : Nat) (qf35 : Nat) (qf36 : Nat) (qf37 : Nat) (qf40 : Nat) (qf41 : Nat) (qf42 : Nat) (qf43 : Nat) (qf44 : Nat) (cf31 : ClassId) (f31 : (Nat → Int32)) (cf32 : ClassId) (f32 : (Nat → Int32)) (cf33 : ClassId) (f33 : (Nat → Int32)) (cf5 : ClassId) (f5 : (Nat → Int32)) (cf6 : ClassId) (f6 : (Nat → Int32)) (cf2 : ClassId) (f2 : (Nat → Int32)) (cf25 : ClassId) (f25 : (Nat → Int32)) (cf35 : ClassId) (f35 : (Nat → Int32)) (cf34 : ClassId) (f34 : (Nat → Int32)) (cf29 : ClassId) (f29 : (Nat → Int32)) (cf30 : ClassId) (f30 : (Nat → Int32)) (cf37 : ClassId) (f37 : (Nat → Int32)) (cf36 : ClassId) (f36 : (Nat → Int32)) (cf40 : ClassId) (f40 : (Nat → Int32)) (cf41 : ClassId) (f41 : (Nat → Int32)) (cf42 : ClassId) (f42 : (Nat → Int32)) (cf44 : ClassId) (f44 : (Nat → Int32)) (cf43 : ClassId) (f43 : (Nat → Int32)) (nS477 : Nat) (fS477 : (Nat → Int32)) (hS477 : Nat) (qS477 : Nat) (tS477 : String) (nf : Nat) (o35 : (Nat → Int32)) (o44 : (Nat → Int32)) (w10 : Int32) (w9 : Int32) (hlen : zs.length = 155) (hf2 : zs[2]? = some (.ref qf2)) (hf5 : zs[5]? = some (.ref qf5)) (hf6 : zs[6]? = some (.ref qf6)) (hf9 : zs[9]? = some (.int v9)) (hf10 : zs[10]? = some (.int v10)) (hf24 : zs[24]? = some (.int v24)) (hf25 : zs[25]? = some (.ref qf25)) (hf29 : zs[29]? = some (.ref qf29)) (hf30 : zs[30]? = some (.ref qf30)) (hf31 : zs[31]? = some (.ref qf31)) (hf32 : zs[32]? = some (.ref qf32)) (hf33 : zs[33]? = some (.ref qf33)) (hf34 : zs[34]? = some (.ref qf34)) (hf35 : zs[35]? = some (.ref qf35)) (hf36 : zs[36]? = some (.ref qf36)) (hf37 : zs[37]? = some (.ref qf37)) (hf40 : zs[40]? = some (.ref qf40)) (hf41 : zs[41]? = some (.ref qf41)) (hf42 : zs[42]? = some (.ref qf42)) (hf43 : zs[43]? = some (.ref qf43)) (hf44 : zs[44]? = some (.ref qf44)) (hsp : sp_vm_memberHead nf a1 v9 v10 v24 f31 f32 f33 f5 f6 f2 f25 f35 f34 f29 f30 f37 f36 f40 f41 f42 f44 f43 nS477 fS477 = some (o35, o44, w10, w9)) : Met l yX13_memberHead (.code yX13_memberHead cX13_memberHead 7 none :: VS_h9) ({ frames := 7, cells := 0, slots := 0, locals := 159 }) (va_Pc [.ref h0, .int a1] (fun U => U.heap.size = sz ∧ va_P (dC, dI) vwCl [(h0, .inr (13, zs)), (qf31, .inl (cf31, 800, .inl f31)), (qf32, .inl (cf32, 800, .inl f32)), (qf33, .inl (cf33, 800, .inl f33)), (qf5, .inl (cf5, 3002, .inl f5)), (qf6, .inl (cf6, 3002, .inl f6)), (qf2, .inl (cf2, 3000, .inl f2)), (qf25, .inl (cf25, 400, .inl f25)), (qf35, .inl (cf35, 800, .inl f35)), (qf34, .inl (cf34, 800, .inl f34)), (qf29, .inl (cf29, 800, .inl f29)), (qf30, .inl (cf30, 800, .inl f30)), (qf37, .inl (cf37, 800, .inl f37)), (qf36, .inl (cf36, 800, .inl f36)), (qf40, .inl (cf40, 1500, .inl f40)), (qf41, .inl (cf41, 1500, .inl f41)), (qf42, .inl (cf42, 1500, .inl f42)), (qf44, .inl (cf44, 1500, .inl f44)), (qf43, .inl (cf43, 1500, .inl f43))] U.heap ∧ va_K (dC, dI) vwCl [(cf31, .int), (cf32, .int), (cf33, .boolean), (cf5, .int), (cf6, .int), (cf2, .int), (cf25, .int), (cf35, .int), (cf34, .int), (cf29, .int), (cf30, .int), (cf37, .int), (cf36, .int), (cf40, .int), (cf41, .int), (cf42, .boolean), (cf44, .int), (cf43, .int)] U ∧ va_D (fun _ => True) [(h0, .inr (13, zs)), (qf31, .inl (cf31, 800, .inl f31)), (qf32, .inl (cf32, 800, .inl f32)), (qf33, .inl (cf33, 800, .inl f33)), (qf5, .inl (cf5, 3002, .inl f5)), (qf6, .inl (cf6, 3002, .inl f6)), (qf2, .inl (cf2, 3000, .inl f2)), (qf25, .inl (cf25, 400, .inl f25)), (qf35, .inl (cf35, 800, .inl f35)), (qf34, .inl (cf34, 800, .inl f34)), (qf29, .inl (cf29, 800, .inl f29)), (qf30, .inl (cf30, 800, .inl f30)), (qf37, .inl (cf37, 800, .inl f37)), (qf36, .inl (cf36, 800, .inl f36)), (qf40, .inl (cf40, 1500, .inl f40)), (qf41, .inl (cf41, 1500, .inl f41)), (qf42, .inl (cf42, 1500, .inl f42)), (qf44, .inl (cf44, 1500, .inl f44)), (qf43, .inl (cf43, 1500, .inl f43))] ∧ pz_W nS477 fS477 hS477 qS477 (va_A [(h0, .inr (13, zs)), (qf31, .inl (cf31, 800, .inl f31)), (qf32, .inl (cf32, 800, .inl f32)), (qf33, .inl (cf33, 800, .inl f33)), (qf5, .inl (cf5, 3002, .inl f5)), (qf6, .inl (cf6, 3002, .inl f6)), (qf2, .inl (cf2, 3000, .inl f2)), (qf25, .inl (cf25, 400, .inl f25)), (qf35, .inl (cf35, 800, .inl f35)), (qf34, .inl (cf34, 800, .inl f34)), (qf29, .inl (cf29, 800, .inl f29)), (qf30, .inl (cf30, 800, .inl f30)), (qf37, .inl (cf37, 800, .inl f37)), (qf36, .inl (cf36, 800, .inl f36)), (qf40, .inl (cf40, 1500, .inl f40)), (qf41, .inl (cf41, 1500, .inl f41)), (qf42, .inl (cf42, 1500, .inl f42)), (qf44, .inl (cf44, 1500, .inl f44)), (qf43, .inl (cf43, 1500, .inl f43))] sz) U U.heap ∧ vk_R RX13 477 tS477 hS477 U)) (va_Qv (fun (u : (List Value)) => match u with | (zo1) => True ∧ zo1.length = 155 ∧ (∀ j : Nat, j ≠ 10 → j ≠ 9 → zo1[j]? = zs[j]?) ∧ zo1[10]? = some (.int w10) ∧ zo1[9]? = some (.int w9)) (fun (u : (List Value)) (t : State) => match u with | (zo1) => va_P (dC, dI) vwCl [(h0, .inr (13, zo1)), (qf31, .inl (cf31, 800, .inl f31)), (qf32, .inl (cf32, 800, .inl f32)), (qf33, .inl (cf33, 800, .inl f33)), (qf5, .inl (cf5, 3002, .inl f5)), (qf6, .inl (cf6, 3002, .inl f6)), (qf2, .inl (cf2, 3000, .inl f2)), (qf25, .inl (cf25, 400, .inl f25)), (qf35, .inl (cf35, 800, .inl o35)), (qf34, .inl (cf34, 800, .inl f34)), (qf29, .inl (cf29, 800, .inl f29)), (qf30, .inl (cf30, 800, .inl f30)), (qf37, .inl (cf37, 800, .inl f37)), (qf36, .inl (cf36, 800, .inl f36)), (qf40, .inl (cf40, 1500, .inl f40)), (qf41, .inl (cf41, 1500, .inl f41)), (qf42, .inl (cf42, 1500, .inl f42)), (qf44, .inl (cf44, 1500, .inl o44)), (qf43, .inl (cf43, 1500, .inl f43))] t.heap ∧ va_K (dC, dI) vwCl [(cf31, .int), (cf32, .int), (cf33, .boolean), (cf5, .int), (cf6, .int), (cf2, .int), (cf25, .int), (cf35, .int), (cf34, .int), (cf29, .int), (cf30, .int), (cf37, .int), (cf36, .int), (cf40, .int), (cf41, .int), (cf42, .boolean), (cf44, .int), (cf43, .int)] t ∧ va_D (va_A [(h0, .inr (13, zs)), (qf31, .inl (cf31, 800, .inl f31)), (qf32, .inl (cf32, 800, .inl f32)), (qf33, .inl (cf33, 800, .inl f33)), (qf5, .inl (cf5, 3002, .inl f5)), (qf6, .inl (cf6, 3002, .inl f6)), (qf2, .inl (cf2, 3000, .inl f2)), (qf25, .inl (cf25, 400, .inl f25)), (qf35, .inl (cf35, 800, .inl f35)), (qf34, .inl (cf34, 800, .inl f34)), (qf29, .inl (cf29, 800, .inl f29)), (qf30, .inl (cf30, 800, .inl f30)), (qf37, .inl (cf37, 800, .inl f37)), (qf36, .inl (cf36, 800, .inl f36)), (qf40, .inl (cf40, 1500, .inl f40)), (qf41, .inl (cf41, 1500, .inl f41)), (qf42, .inl (cf42, 1500, .inl f42)), (qf44, .inl (cf44, 1500, .inl f44)), (qf43, .inl (cf43, 1500, .inl f43))] sz) [(h0, .inr (13, zo1)), (qf31, .inl (cf31, 800, .inl f31)), (qf32, .inl (cf32, 800, .inl f32)), (qf33, .inl (cf33, 800, .inl f33)), (qf5, .inl (cf5, 3002, .inl f5)), (qf6, .inl (cf6, 3002, .inl f6)), (qf2, .inl (cf2, 3000, .inl f2)), (qf25, .inl (cf25, 400, .inl f25)), (qf35, .inl (cf35, 800, .inl o35)), (qf34, .inl (cf34, 800, .inl f34)), (qf29, .inl (cf29, 800, .inl f29)), (qf30, .inl (cf30, 800, .inl f30)), (qf37, .inl (cf37, 800, .inl f37)), (qf36, .inl (cf36, 800, .inl f36)), (qf40, .inl (cf40, 1500, .inl f40)), (qf41, .inl (cf41, 1500, .inl f41)), (qf42, .inl (cf42, 1500, .inl f42)), (qf44, .inl (cf44, 1500, .inl o44)), (qf43, .inl (cf43, 1500, .inl f43))]) (va_A [(h0, .inr (13, zs)), (qf31, .inl (cf31, 800, .inl f31)), (qf32, .inl (cf32, 800, .inl f32)), (qf33, .inl (cf33, 800, .inl f33)), (qf5, .inl (cf5, 3002, .inl f5)), (qf6, .inl (cf6, 3002, .inl f6)), (qf2, .inl (cf2, 3000, .inl f2)), (qf25, .inl (cf25, 400, .inl f25)), (qf35, .inl (cf35, 800, .inl f35)), (qf34, .inl (cf34, 800, .inl f34)), (qf29, .inl (cf29, 800, .inl f29)), (qf30, .inl (cf30, 800, .inl f30)), (qf37, .inl (cf37, 800, .inl f37)), (qf36, .inl (cf36, 800, .inl f36)), (qf40, .inl (cf40, 1500, .inl f40)), (qf41, .inl (cf41, 1500, .inl f41)), (qf42, .inl (cf42, 1500, .inl f42)), (qf44, .inl (cf44, 1500, .inl f44)), (qf43, .inl (cf43, 1500, .inl f43))] sz)) 0 0 (va_A [(h0, .inr (13, zs)), (qf31, .inl (cf31, 800, .inl f31)), (qf32, .inl (cf32, 800, .inl f32)), (qf33, .inl (cf33, 800, .inl f33)), (qf5, .inl (cf5, 3002, .inl f5)), (qf6, .inl (cf6, 3002, .inl f6)), (qf2, .inl (cf2, 3000, .inl f2)), (qf25, .inl (cf25, 400, .inl f25)), (qf35, .inl (cf35, 800, .inl f35)), (qf34, .inl (cf34, 800, .inl f34)), (qf29, .inl (cf29, 800, .inl f29)), (qf30, .inl (cf30, 800, .inl f30)), (qf37, .inl (cf37, 800, .inl f37)), (qf36, .inl (cf36, 800, .inl f36)), (qf40, .inl (cf40, 1500, .inl f40)), (qf41, .inl (cf41, 1500, .inl f41)), (qf42, .inl (cf42, 1500, .inl f42)), (qf44, .inl (cf44, 1500, .inl f44)), (qf43, .inl (cf43, 1500, .inl f43))] sz) := by
  refine Met.ofW (cc := cX13_memberHead) (maxL := 7) (ret := none) (by decide) rfl ?_
  intro p e s m args below meth c s₁ B hml hv
  obtain ⟨rfl, hsz, hP, hK, hD0, hZWS477, hZRS477⟩ := hv
  have hx := B.exec
  have hb := B.bytes
  have hr := B.returns
  have hts := atoms_spec (ws := (.code yX13_memberHead cX13_memberHead 7 none :: VS_h9)) B.pre
  replace hts := fun w (h : w ∈ VS_h9) => hts w (List.mem_cons_of_mem _ h)
  have hown : s.vm.findClass RX13 = some m.cls := findClass_of_methodNamed B.named
  have hlocks := B.notSynchronized
  subst hsz
  have hD := hD0.self (sz := s.heap.size)
  generalize hAe : va_A [(h0, .inr (13, zs)), (qf31, .inl (cf31, 800, .inl f31)), (qf32, .inl (cf32, 800, .inl f32)), (qf33, .inl (cf33, 800, .inl f33)), (qf5, .inl (cf5, 3002, .inl f5)), (qf6, .inl (cf6, 3002, .inl f6)), (qf2, .inl (cf2, 3000, .inl f2)), (qf25, .inl (cf25, 400, .inl f25)), (qf35, .inl (cf35, 800, .inl f35)), (qf34, .inl (cf34, 800, .inl f34)), (qf29, .inl (cf29, 800, .inl f29)), (qf30, .inl (cf30, 800, .inl f30)), (qf37, .inl (cf37, 800, .inl f37)), (qf36, .inl (cf36, 800, .inl f36)), (qf40, .inl (cf40, 1500, .inl f40)), (qf41, .inl (cf41, 1500, .inl f41)), (qf42, .inl (cf42, 1500, .inl f42)), (qf44, .inl (cf44, 1500, .inl f44)), (qf43, .inl (cf43, 1500, .inl f43))] s.heap.size = A at hD hZWS477 ⊢
  have hA : ∀ q : Nat, s.heap.size ≤ q → A q := fun q h => by rw [← hAe]; exact Or.inr h
  have hP : va_P (dC, dI) vwCl [(h0, .inr (13, zs)), (qf31, .inl (cf31, 800, .inl f31)), (qf32, .inl (cf32, 800, .inl f32)), (qf33, .inl (cf33, 800, .inl f33)), (qf5, .inl (cf5, 3002, .inl f5)), (qf6, .inl (cf6, 3002, .inl f6)), (qf2, .inl (cf2, 3000, .inl f2)), (qf25, .inl (cf25, 400, .inl f25)), (qf35, .inl (cf35, 800, .inl f35)), (qf34, .inl (cf34, 800, .inl f34)), (qf29, .inl (cf29, 800, .inl f29)), (qf30, .inl (cf30, 800, .inl f30)), (qf37, .inl (cf37, 800, .inl f37)), (qf36, .inl (cf36, 800, .inl f36)), (qf40, .inl (cf40, 1500, .inl f40)), (qf41, .inl (cf41, 1500, .inl f41)), (qf42, .inl (cf42, 1500, .inl f42)), (qf44, .inl (cf44, 1500, .inl f44)), (qf43, .inl (cf43, 1500, .inl f43))] s.heap := hP
  have hl := lv_entry ([.ref h0, .int a1]) (n := 7) (Nat.le_of_ble_eq_true rfl)
  rw [lg_entry_eq]
  generalize (lg_sl ([.ref h0, .int a1]) ++ List.replicate (7 - (lg_sl ([.ref h0, .int a1])).length) Slot.unset).toArray = ls at hl ⊢
  have hl : lv_has ls 7 [(0, .ref h0), (1, .int a1)] := hl
  obtain ⟨H, hH⟩ : ∃ H : Heap, s.heap = H := ⟨_, rfl⟩
  rw [hH] at hP ⊢
  have hS : va_S A s.heap H [] := by rw [← hH]; exact va_S.rf
  obtain ⟨locs, hlo⟩ : ∃ locs : List Loc, locs = [] := ⟨_, rfl⟩
  rw [← hlo] at hS ⊢
  have hrs0 : ∀ j : Nat, j ≠ 10 → j ≠ 9 → zs[j]? = zs[j]? := fun _ _ _  => rfl
  unfold sp_vm_memberHead at hsp
  refine jn_use (α := Heap × List Loc × Array Slot × List Value × Int32 × (Nat → Int32) × (Nat → Int32) × Int32 × Int32) (fun x9 => x9.1) (fun x9 => x9.2.1) (fun x9 => F0 m 154 x9.2.2.1 []) (fun x9 => match x9 with | (H, locs, ls, z154, l1_154, g35_154, g44_154, x10_154, x9_154) => lv_has ls 7 [(0, .ref h0), (1, .int l1_154)] ∧ va_S A s.heap H locs ∧ va_D A [(h0, .inr (13, z154)), (qf31, .inl (cf31, 800, .inl f31)), (qf32, .inl (cf32, 800, .inl f32)), (qf33, .inl (cf33, 800, .inl f33)), (qf5, .inl (cf5, 3002, .inl f5)), (qf6, .inl (cf6, 3002, .inl f6)), (qf2, .inl (cf2, 3000, .inl f2)), (qf25, .inl (cf25, 400, .inl f25)), (qf35, .inl (cf35, 800, .inl g35_154)), (qf34, .inl (cf34, 800, .inl f34)), (qf29, .inl (cf29, 800, .inl f29)), (qf30, .inl (cf30, 800, .inl f30)), (qf37, .inl (cf37, 800, .inl f37)), (qf36, .inl (cf36, 800, .inl f36)), (qf40, .inl (cf40, 1500, .inl f40)), (qf41, .inl (cf41, 1500, .inl f41)), (qf42, .inl (cf42, 1500, .inl f42)), (qf44, .inl (cf44, 1500, .inl g44_154)), (qf43, .inl (cf43, 1500, .inl f43))] ∧ va_P (dC, dI) vwCl [(h0, .inr (13, z154)), (qf31, .inl (cf31, 800, .inl f31)), (qf32, .inl (cf32, 800, .inl f32)), (qf33, .inl (cf33, 800, .inl f33)), (qf5, .inl (cf5, 3002, .inl f5)), (qf6, .inl (cf6, 3002, .inl f6)), (qf2, .inl (cf2, 3000, .inl f2)), (qf25, .inl (cf25, 400, .inl f25)), (qf35, .inl (cf35, 800, .inl g35_154)), (qf34, .inl (cf34, 800, .inl f34)), (qf29, .inl (cf29, 800, .inl f29)), (qf30, .inl (cf30, 800, .inl f30)), (qf37, .inl (cf37, 800, .inl f37)), (qf36, .inl (cf36, 800, .inl f36)), (qf40, .inl (cf40, 1500, .inl f40)), (qf41, .inl (cf41, 1500, .inl f41)), (qf42, .inl (cf42, 1500, .inl f42)), (qf44, .inl (cf44, 1500, .inl g44_154)), (qf43, .inl (cf43, 1500, .inl f43))] H ∧ z154[2]? = some (.ref qf2) ∧ z154[5]? = some (.ref qf5) ∧ z154[6]? = some (.ref qf6) ∧ z154[9]? = some (.int x9_154) ∧ z154[10]? = some (.int x10_154) ∧ z154[24]? = some (.int v24) ∧ z154[25]? = some (.ref qf25) ∧ z154[29]? = some (.ref qf29) ∧ z154[30]? = some (.ref qf30) ∧ z154[31]? = some (.ref qf31) ∧ z154[32]? = some (.ref qf32) ∧ z154[33]? = some (.ref qf33) ∧ z154[34]? = some (.ref qf34) ∧ z154[35]? = some (.ref qf35) ∧ z154[36]? = some (.ref qf36) ∧ z154[37]? = some (.ref qf37) ∧ z154[40]? = some (.ref qf40) ∧ z154[41]? = some (.ref qf41) ∧ z154[42]? = some (.ref qf42) ∧ z154[43]? = some (.ref qf43) ∧ z154[44]? = some (.ref qf44) ∧ z154.length = 155 ∧ (∀ j : Nat, j ≠ 10 → j ≠ 9 → z154[j]? = zs[j]?) ∧ jn_vm_memberHead_154 nf a1 v9 v10 v24 f31 f32 f33 f5 f6 f2 f25 f35 f34 f29 f30 f37 f36 f40 f41 f42 f44 f43 nS477 fS477 l1_154 g35_154 g44_154 x10_154 x9_154 = some (o35, o44, w10, w9)) ?_ ?_
  · intro x9 hJ9
    obtain ⟨H, locs, ls, z154, l1_154, g35_154, g44_154, x10_154, x9_154⟩ := x9
    obtain ⟨hl, hS, hD, hP, hfh_154_2, hfh_154_5, hfh_154_6, hfh_154_9, hfh_154_10, hfh_154_24, hfh_154_25, hfh_154_29, hfh_154_30, hfh_154_31, hfh_154_32, hfh_154_33, hfh_154_34, hfh_154_35, hfh_154_36, hfh_154_37, hfh_154_40, hfh_154_41, hfh_154_42, hfh_154_43, hfh_154_44, hlh_154, hrh_154, hsp⟩ := hJ9
    replace hl : lv_has ls 7 [(0, .ref h0), (1, .int l1_154)] := hl
    replace hS : va_S A s.heap H locs := hS
    replace hD : va_D A [(h0, .inr (13, z154)), (qf31, .inl (cf31, 800, .inl f31)), (qf32, .inl (cf32, 800, .inl f32)), (qf33, .inl (cf33, 800, .inl f33)), (qf5, .inl (cf5, 3002, .inl f5)), (qf6, .inl (cf6, 3002, .inl f6)), (qf2, .inl (cf2, 3000, .inl f2)), (qf25, .inl (cf25, 400, .inl f25)), (qf35, .inl (cf35, 800, .inl g35_154)), (qf34, .inl (cf34, 800, .inl f34)), (qf29, .inl (cf29, 800, .inl f29)), (qf30, .inl (cf30, 800, .inl f30)), (qf37, .inl (cf37, 800, .inl f37)), (qf36, .inl (cf36, 800, .inl f36)), (qf40, .inl (cf40, 1500, .inl f40)), (qf41, .inl (cf41, 1500, .inl f41)), (qf42, .inl (cf42, 1500, .inl f42)), (qf44, .inl (cf44, 1500, .inl g44_154)), (qf43, .inl (cf43, 1500, .inl f43))] := hD
    replace hP : va_P (dC, dI) vwCl [(h0, .inr (13, z154)), (qf31, .inl (cf31, 800, .inl f31)), (qf32, .inl (cf32, 800, .inl f32)), (qf33, .inl (cf33, 800, .inl f33)), (qf5, .inl (cf5, 3002, .inl f5)), (qf6, .inl (cf6, 3002, .inl f6)), (qf2, .inl (cf2, 3000, .inl f2)), (qf25, .inl (cf25, 400, .inl f25)), (qf35, .inl (cf35, 800, .inl g35_154)), (qf34, .inl (cf34, 800, .inl f34)), (qf29, .inl (cf29, 800, .inl f29)), (qf30, .inl (cf30, 800, .inl f30)), (qf37, .inl (cf37, 800, .inl f37)), (qf36, .inl (cf36, 800, .inl f36)), (qf40, .inl (cf40, 1500, .inl f40)), (qf41, .inl (cf41, 1500, .inl f41)), (qf42, .inl (cf42, 1500, .inl f42)), (qf44, .inl (cf44, 1500, .inl g44_154)), (qf43, .inl (cf43, 1500, .inl f43))] H := hP
    replace hsp : jn_vm_memberHead_154 nf a1 v9 v10 v24 f31 f32 f33 f5 f6 f2 f25 f35 f34 f29 f30 f37 f36 f40 f41 f42 f44 f43 nS477 fS477 l1_154 g35_154 g44_154 x10_154 x9_154 = some (o35, o44, w10, w9) := hsp
    show W _ _ _ _ _ _ _ _ _ _ H locs _ _ _ (F0 m 154 ls [])
    unfold jn_vm_memberHead_154 at hsp
    try dsimp only at hsp
    refine lv_iconst (v := 0) hx hb dX13_memberHead_154 (by decide) ?_
    refine lv_istore (lv' := [(4, .int 0), (0, .ref h0), (1, .int l1_154)]) hx hb dX13_memberHead_155 hl (by decide) rfl (fun ls hl => ?_)
    replace hl : lv_has ls 7 [(4, .int 0), (0, .ref h0), (1, .int l1_154)] := lv_sub hl [0, 1, 2] rfl
    replace hP := hP.sub (ws' := [(h0, .inr (13, z154)), (qf31, .inl (cf31, 800, .inl f31)), (qf32, .inl (cf32, 800, .inl f32)), (qf33, .inl (cf33, 800, .inl f33)), (qf5, .inl (cf5, 3002, .inl f5)), (qf6, .inl (cf6, 3002, .inl f6)), (qf2, .inl (cf2, 3000, .inl f2)), (qf25, .inl (cf25, 400, .inl f25)), (qf35, .inl (cf35, 800, .inl g35_154)), (qf34, .inl (cf34, 800, .inl f34)), (qf29, .inl (cf29, 800, .inl f29)), (qf30, .inl (cf30, 800, .inl f30)), (qf37, .inl (cf37, 800, .inl f37)), (qf36, .inl (cf36, 800, .inl f36)), (qf40, .inl (cf40, 1500, .inl f40)), (qf41, .inl (cf41, 1500, .inl f41)), (qf42, .inl (cf42, 1500, .inl f42)), (qf44, .inl (cf44, 1500, .inl g44_154)), (qf43, .inl (cf43, 1500, .inl f43))]) [0, 1, 2, 3, 4, 5, 6, 7, 8, 9, 10, 11, 12, 13, 14, 15, 16, 17, 18] rfl
    replace hD := hD.sub (ws' := [(h0, .inr (13, z154)), (qf31, .inl (cf31, 800, .inl f31)), (qf32, .inl (cf32, 800, .inl f32)), (qf33, .inl (cf33, 800, .inl f33)), (qf5, .inl (cf5, 3002, .inl f5)), (qf6, .inl (cf6, 3002, .inl f6)), (qf2, .inl (cf2, 3000, .inl f2)), (qf25, .inl (cf25, 400, .inl f25)), (qf35, .inl (cf35, 800, .inl g35_154)), (qf34, .inl (cf34, 800, .inl f34)), (qf29, .inl (cf29, 800, .inl f29)), (qf30, .inl (cf30, 800, .inl f30)), (qf37, .inl (cf37, 800, .inl f37)), (qf36, .inl (cf36, 800, .inl f36)), (qf40, .inl (cf40, 1500, .inl f40)), (qf41, .inl (cf41, 1500, .inl f41)), (qf42, .inl (cf42, 1500, .inl f42)), (qf44, .inl (cf44, 1500, .inl g44_154)), (qf43, .inl (cf43, 1500, .inl f43))]) [0, 1, 2, 3, 4, 5, 6, 7, 8, 9, 10, 11, 12, 13, 14, 15, 16, 17, 18] (by decide) rfl
    replace hK := hK.sub (tys' := [(cf31, .int), (cf32, .int), (cf33, .boolean), (cf5, .int), (cf6, .int), (cf2, .int), (cf25, .int), (cf35, .int), (cf34, .int), (cf29, .int), (cf30, .int), (cf37, .int), (cf36, .int), (cf40, .int), (cf41, .int), (cf42, .boolean), (cf44, .int), (cf43, .int)]) [0, 1, 2, 3, 4, 5, 6, 7, 8, 9, 10, 11, 12, 13, 14, 15, 16, 17] rfl
    obtain ⟨n_157, hn_157⟩ : ∃ z : Nat, z = nf := ⟨_, rfl⟩
    obtain ⟨l1_157, el1_157⟩ : ∃ z : Int32, z = l1_154 := ⟨_, rfl⟩
    obtain ⟨l4_157, el4_157⟩ : ∃ z : Int32, z = 0 := ⟨_, rfl⟩
    obtain ⟨g35_157, eg35_157⟩ : ∃ z : Nat → Int32, z = g35_154 := ⟨_, rfl⟩
    obtain ⟨g44_157, eg44_157⟩ : ∃ z : Nat → Int32, z = g44_154 := ⟨_, rfl⟩
    obtain ⟨x10_157, ex10_157⟩ : ∃ z : Int32, z = x10_154 := ⟨_, rfl⟩
    obtain ⟨x9_157, ex9_157⟩ : ∃ z : Int32, z = x9_154 := ⟨_, rfl⟩
    replace hsp : lp_vm_memberHead_157 nf n_157 a1 v9 v10 v24 f31 f32 f33 f5 f6 f2 f25 f35 f34 f29 f30 f37 f36 f40 f41 f42 f44 f43 nS477 fS477 l1_157 l4_157 g35_157 g44_157 x10_157 x9_157 = some (o35, o44, w10, w9) := by rw [hn_157, el1_157, el4_157, eg35_157, eg44_157, ex10_157, ex9_157]; exact hsp
    replace hl : lv_has ls 7 [(4, .int l4_157), (0, .ref h0), (1, .int l1_157)] := by rw [el1_157, el4_157]; exact hl
    obtain ⟨z157, ez157⟩ : ∃ z : List Value, z = z154 := ⟨_, rfl⟩
    have hfh_157_2 : z157[2]? = some (.ref qf2) := by rw [ez157]; exact hfh_154_2
    have hfh_157_5 : z157[5]? = some (.ref qf5) := by rw [ez157]; exact hfh_154_5
    have hfh_157_6 : z157[6]? = some (.ref qf6) := by rw [ez157]; exact hfh_154_6
    have hfh_157_9 : z157[9]? = some (.int x9_157) := by rw [ez157, ex9_157]; exact hfh_154_9
    have hfh_157_10 : z157[10]? = some (.int x10_157) := by rw [ez157, ex10_157]; exact hfh_154_10
    have hfh_157_24 : z157[24]? = some (.int v24) := by rw [ez157]; exact hfh_154_24
    have hfh_157_25 : z157[25]? = some (.ref qf25) := by rw [ez157]; exact hfh_154_25
    have hfh_157_29 : z157[29]? = some (.ref qf29) := by rw [ez157]; exact hfh_154_29
    have hfh_157_30 : z157[30]? = some (.ref qf30) := by rw [ez157]; exact hfh_154_30
    have hfh_157_31 : z157[31]? = some (.ref qf31) := by rw [ez157]; exact hfh_154_31
    have hfh_157_32 : z157[32]? = some (.ref qf32) := by rw [ez157]; exact hfh_154_32
    have hfh_157_33 : z157[33]? = some (.ref qf33) := by rw [ez157]; exact hfh_154_33
    have hfh_157_34 : z157[34]? = some (.ref qf34) := by rw [ez157]; exact hfh_154_34
    have hfh_157_35 : z157[35]? = some (.ref qf35) := by rw [ez157]; exact hfh_154_35
    have hfh_157_36 : z157[36]? = some (.ref qf36) := by rw [ez157]; exact hfh_154_36
    have hfh_157_37 : z157[37]? = some (.ref qf37) := by rw [ez157]; exact hfh_154_37
    have hfh_157_40 : z157[40]? = some (.ref qf40) := by rw [ez157]; exact hfh_154_40
    have hfh_157_41 : z157[41]? = some (.ref qf41) := by rw [ez157]; exact hfh_154_41
    have hfh_157_42 : z157[42]? = some (.ref qf42) := by rw [ez157]; exact hfh_154_42
    have hfh_157_43 : z157[43]? = some (.ref qf43) := by rw [ez157]; exact hfh_154_43
    have hfh_157_44 : z157[44]? = some (.ref qf44) := by rw [ez157]; exact hfh_154_44
    have hlh_157 : z157.length = 155 := by rw [ez157]; exact hlh_154
    have hrh_157 : ∀ j : Nat, j ≠ 10 → j ≠ 9 → z157[j]? = zs[j]? := by rw [ez157]; exact hrh_154
    replace hP : va_P (dC, dI) vwCl [(h0, .inr (13, z157)), (qf31, .inl (cf31, 800, .inl f31)), (qf32, .inl (cf32, 800, .inl f32)), (qf33, .inl (cf33, 800, .inl f33)), (qf5, .inl (cf5, 3002, .inl f5)), (qf6, .inl (cf6, 3002, .inl f6)), (qf2, .inl (cf2, 3000, .inl f2)), (qf25, .inl (cf25, 400, .inl f25)), (qf35, .inl (cf35, 800, .inl g35_157)), (qf34, .inl (cf34, 800, .inl f34)), (qf29, .inl (cf29, 800, .inl f29)), (qf30, .inl (cf30, 800, .inl f30)), (qf37, .inl (cf37, 800, .inl f37)), (qf36, .inl (cf36, 800, .inl f36)), (qf40, .inl (cf40, 1500, .inl f40)), (qf41, .inl (cf41, 1500, .inl f41)), (qf42, .inl (cf42, 1500, .inl f42)), (qf44, .inl (cf44, 1500, .inl g44_157)), (qf43, .inl (cf43, 1500, .inl f43))] H := by rw [ez157, eg35_157, eg44_157]; exact hP
    replace hD : va_D A [(h0, .inr (13, z157)), (qf31, .inl (cf31, 800, .inl f31)), (qf32, .inl (cf32, 800, .inl f32)), (qf33, .inl (cf33, 800, .inl f33)), (qf5, .inl (cf5, 3002, .inl f5)), (qf6, .inl (cf6, 3002, .inl f6)), (qf2, .inl (cf2, 3000, .inl f2)), (qf25, .inl (cf25, 400, .inl f25)), (qf35, .inl (cf35, 800, .inl g35_157)), (qf34, .inl (cf34, 800, .inl f34)), (qf29, .inl (cf29, 800, .inl f29)), (qf30, .inl (cf30, 800, .inl f30)), (qf37, .inl (cf37, 800, .inl f37)), (qf36, .inl (cf36, 800, .inl f36)), (qf40, .inl (cf40, 1500, .inl f40)), (qf41, .inl (cf41, 1500, .inl f41)), (qf42, .inl (cf42, 1500, .inl f42)), (qf44, .inl (cf44, 1500, .inl g44_157)), (qf43, .inl (cf43, 1500, .inl f43))] := by rw [ez157, eg35_157, eg44_157]; exact hD
    clear hn_157 ez157 el1_157 el4_157 eg35_157 eg44_157 ex10_157 ex9_157
    try clear hlo
    try clear hH
    revert hsp
    revert hP
    revert hD
    revert hS
    revert hl
    revert hrh_157
    revert hlh_157
    revert hfh_157_44
    revert hfh_157_43
    revert hfh_157_42
    revert hfh_157_41
    revert hfh_157_40
    revert hfh_157_37
    revert hfh_157_36
    revert hfh_157_35
    revert hfh_157_34
    revert hfh_157_33
    revert hfh_157_32
    revert hfh_157_31
    revert hfh_157_30
    revert hfh_157_29
    revert hfh_157_25
    revert hfh_157_24
    revert hfh_157_10
    revert hfh_157_9
    revert hfh_157_6
    revert hfh_157_5
    revert hfh_157_2
    revert x9_157
    revert x10_157
    revert g44_157
    revert g35_157
    revert l4_157
    revert l1_157
    revert z157
    revert ls
    revert locs
    revert H
    induction n_157 with
    | zero => intro H locs ls z157 l1_157 l4_157 g35_157 g44_157 x10_157 x9_157 hfh_157_2 hfh_157_5 hfh_157_6 hfh_157_9 hfh_157_10 hfh_157_24 hfh_157_25 hfh_157_29 hfh_157_30 hfh_157_31 hfh_157_32 hfh_157_33 hfh_157_34 hfh_157_35 hfh_157_36 hfh_157_37 hfh_157_40 hfh_157_41 hfh_157_42 hfh_157_43 hfh_157_44 hlh_157 hrh_157 hl hS hD hP hsp; unfold lp_vm_memberHead_157 at hsp; cases hsp
    | succ n_157 ih_157 =>
      intro H locs ls z157 l1_157 l4_157 g35_157 g44_157 x10_157 x9_157 hfh_157_2 hfh_157_5 hfh_157_6 hfh_157_9 hfh_157_10 hfh_157_24 hfh_157_25 hfh_157_29 hfh_157_30 hfh_157_31 hfh_157_32 hfh_157_33 hfh_157_34 hfh_157_35 hfh_157_36 hfh_157_37 hfh_157_40 hfh_157_41 hfh_157_42 hfh_157_43 hfh_157_44 hlh_157 hrh_157 hl hS hD hP hsp
      unfold lp_vm_memberHead_157 at hsp
      try dsimp only at hsp
      refine jn_use (α := Heap × List Loc × Array Slot × List Value × Int32 × Int32 × Int32 × (Nat → Int32) × (Nat → Int32) × Int32 × Int32) (fun x9 => x9.1) (fun x9 => x9.2.1) (fun x9 => F0 m 231 x9.2.2.1 []) (fun x9 => match x9 with | (H, locs, ls, z231, l1_231, l4_231, l5_231, g35_231, g44_231, x10_231, x9_231) => lv_has ls 7 [(0, .ref h0), (1, .int l1_231), (4, .int l4_231), (5, .int l5_231)] ∧ va_S A s.heap H locs ∧ va_D A [(h0, .inr (13, z231)), (qf31, .inl (cf31, 800, .inl f31)), (qf32, .inl (cf32, 800, .inl f32)), (qf33, .inl (cf33, 800, .inl f33)), (qf5, .inl (cf5, 3002, .inl f5)), (qf6, .inl (cf6, 3002, .inl f6)), (qf2, .inl (cf2, 3000, .inl f2)), (qf25, .inl (cf25, 400, .inl f25)), (qf35, .inl (cf35, 800, .inl g35_231)), (qf34, .inl (cf34, 800, .inl f34)), (qf29, .inl (cf29, 800, .inl f29)), (qf30, .inl (cf30, 800, .inl f30)), (qf37, .inl (cf37, 800, .inl f37)), (qf36, .inl (cf36, 800, .inl f36)), (qf40, .inl (cf40, 1500, .inl f40)), (qf41, .inl (cf41, 1500, .inl f41)), (qf42, .inl (cf42, 1500, .inl f42)), (qf44, .inl (cf44, 1500, .inl g44_231)), (qf43, .inl (cf43, 1500, .inl f43))] ∧ va_P (dC, dI) vwCl [(h0, .inr (13, z231)), (qf31, .inl (cf31, 800, .inl f31)), (qf32, .inl (cf32, 800, .inl f32)), (qf33, .inl (cf33, 800, .inl f33)), (qf5, .inl (cf5, 3002, .inl f5)), (qf6, .inl (cf6, 3002, .inl f6)), (qf2, .inl (cf2, 3000, .inl f2)), (qf25, .inl (cf25, 400, .inl f25)), (qf35, .inl (cf35, 800, .inl g35_231)), (qf34, .inl (cf34, 800, .inl f34)), (qf29, .inl (cf29, 800, .inl f29)), (qf30, .inl (cf30, 800, .inl f30)), (qf37, .inl (cf37, 800, .inl f37)), (qf36, .inl (cf36, 800, .inl f36)), (qf40, .inl (cf40, 1500, .inl f40)), (qf41, .inl (cf41, 1500, .inl f41)), (qf42, .inl (cf42, 1500, .inl f42)), (qf44, .inl (cf44, 1500, .inl g44_231)), (qf43, .inl (cf43, 1500, .inl f43))] H ∧ z231[2]? = some (.ref qf2) ∧ z231[5]? = some (.ref qf5) ∧ z231[6]? = some (.ref qf6) ∧ z231[9]? = some (.int x9_231) ∧ z231[10]? = some (.int x10_231) ∧ z231[24]? = some (.int v24) ∧ z231[25]? = some (.ref qf25) ∧ z231[29]? = some (.ref qf29) ∧ z231[30]? = some (.ref qf30) ∧ z231[31]? = some (.ref qf31) ∧ z231[32]? = some (.ref qf32) ∧ z231[33]? = some (.ref qf33) ∧ z231[34]? = some (.ref qf34) ∧ z231[35]? = some (.ref qf35) ∧ z231[36]? = some (.ref qf36) ∧ z231[37]? = some (.ref qf37) ∧ z231[40]? = some (.ref qf40) ∧ z231[41]? = some (.ref qf41) ∧ z231[42]? = some (.ref qf42) ∧ z231[43]? = some (.ref qf43) ∧ z231[44]? = some (.ref qf44) ∧ z231.length = 155 ∧ (∀ j : Nat, j ≠ 10 → j ≠ 9 → z231[j]? = zs[j]?) ∧ jn_vm_memberHead_231 nf a1 v9 v10 v24 f31 f32 f33 f5 f6 f2 f25 f35 f34 f29 f30 f37 f36 f40 f41 f42 f44 f43 nS477 fS477 (lp_vm_memberHead_157 nf n_157 a1 v9 v10 v24 f31 f32 f33 f5 f6 f2 f25 f35 f34 f29 f30 f37 f36 f40 f41 f42 f44 f43 nS477 fS477) l1_231 l4_231 l5_231 g35_231 g44_231 x10_231 x9_231 = some (o35, o44, w10, w9)) ?_ ?_
      · intro x9 hJ9
        obtain ⟨H, locs, ls, z231, l1_231, l4_231, l5_231, g35_231, g44_231, x10_231, x9_231⟩ := x9
        obtain ⟨hl, hS, hD, hP, hfh_231_2, hfh_231_5, hfh_231_6, hfh_231_9, hfh_231_10, hfh_231_24, hfh_231_25, hfh_231_29, hfh_231_30, hfh_231_31, hfh_231_32, hfh_231_33, hfh_231_34, hfh_231_35, hfh_231_36, hfh_231_37, hfh_231_40, hfh_231_41, hfh_231_42, hfh_231_43, hfh_231_44, hlh_231, hrh_231, hsp⟩ := hJ9
        replace hl : lv_has ls 7 [(0, .ref h0), (1, .int l1_231), (4, .int l4_231), (5, .int l5_231)] := hl
        replace hS : va_S A s.heap H locs := hS
        replace hD : va_D A [(h0, .inr (13, z231)), (qf31, .inl (cf31, 800, .inl f31)), (qf32, .inl (cf32, 800, .inl f32)), (qf33, .inl (cf33, 800, .inl f33)), (qf5, .inl (cf5, 3002, .inl f5)), (qf6, .inl (cf6, 3002, .inl f6)), (qf2, .inl (cf2, 3000, .inl f2)), (qf25, .inl (cf25, 400, .inl f25)), (qf35, .inl (cf35, 800, .inl g35_231)), (qf34, .inl (cf34, 800, .inl f34)), (qf29, .inl (cf29, 800, .inl f29)), (qf30, .inl (cf30, 800, .inl f30)), (qf37, .inl (cf37, 800, .inl f37)), (qf36, .inl (cf36, 800, .inl f36)), (qf40, .inl (cf40, 1500, .inl f40)), (qf41, .inl (cf41, 1500, .inl f41)), (qf42, .inl (cf42, 1500, .inl f42)), (qf44, .inl (cf44, 1500, .inl g44_231)), (qf43, .inl (cf43, 1500, .inl f43))] := hD
        replace hP : va_P (dC, dI) vwCl [(h0, .inr (13, z231)), (qf31, .inl (cf31, 800, .inl f31)), (qf32, .inl (cf32, 800, .inl f32)), (qf33, .inl (cf33, 800, .inl f33)), (qf5, .inl (cf5, 3002, .inl f5)), (qf6, .inl (cf6, 3002, .inl f6)), (qf2, .inl (cf2, 3000, .inl f2)), (qf25, .inl (cf25, 400, .inl f25)), (qf35, .inl (cf35, 800, .inl g35_231)), (qf34, .inl (cf34, 800, .inl f34)), (qf29, .inl (cf29, 800, .inl f29)), (qf30, .inl (cf30, 800, .inl f30)), (qf37, .inl (cf37, 800, .inl f37)), (qf36, .inl (cf36, 800, .inl f36)), (qf40, .inl (cf40, 1500, .inl f40)), (qf41, .inl (cf41, 1500, .inl f41)), (qf42, .inl (cf42, 1500, .inl f42)), (qf44, .inl (cf44, 1500, .inl g44_231)), (qf43, .inl (cf43, 1500, .inl f43))] H := hP
        replace hsp : jn_vm_memberHead_231 nf a1 v9 v10 v24 f31 f32 f33 f5 f6 f2 f25 f35 f34 f29 f30 f37 f36 f40 f41 f42 f44 f43 nS477 fS477 (lp_vm_memberHead_157 nf n_157 a1 v9 v10 v24 f31 f32 f33 f5 f6 f2 f25 f35 f34 f29 f30 f37 f36 f40 f41 f42 f44 f43 nS477 fS477) l1_231 l4_231 l5_231 g35_231 g44_231 x10_231 x9_231 = some (o35, o44, w10, w9) := hsp
        show W _ _ _ _ _ _ _ _ _ _ H locs _ _ _ (F0 m 231 ls [])
        unfold jn_vm_memberHead_231 at hsp
        try dsimp only at hsp
        refine lv_aload_n hx hb dX13_memberHead_231 rfl (lv_at hl 0 rfl) ?_
        refine va_get (D := (dC, dI)) (ci := 13) (v := .ref qf36) (C := RX13) (T := TX13) (N := 155) hx hb hts uV_h9_X13 hown hK hP 0 rfl rfl 36 (by decide) (hts (.fieldLink RX13 92 "ClassMillModel" "memberFirst" "[I") mw_h9_111) (fun _ h9 => h9) hfh_231_36 dX13_memberHead_232 ?_
        refine lv_iload_n hx hb dX13_memberHead_235 rfl (lv_at hl 1 rfl) ?_
        obtain ⟨hi_32, hsp⟩ := ox_in hsp
        refine va_iald hx hb hK hP 13 12 rfl rfl (i := l1_231) hi_32 dX13_memberHead_236 ?_
        refine lv_istore (lv' := [(6, .int (f36 (l1_231 : Int32).toNatClampNeg)), (0, .ref h0), (1, .int l1_231), (4, .int l4_231), (5, .int l5_231)]) hx hb dX13_memberHead_237 hl (by decide) rfl (fun ls hl => ?_)
        replace hl : lv_has ls 7 [(6, .int (f36 (l1_231 : Int32).toNatClampNeg)), (0, .ref h0), (1, .int l1_231), (4, .int l4_231), (5, .int l5_231)] := lv_sub hl [0, 1, 2, 3, 4] rfl
        replace hP := hP.sub (ws' := [(h0, .inr (13, z231)), (qf31, .inl (cf31, 800, .inl f31)), (qf32, .inl (cf32, 800, .inl f32)), (qf33, .inl (cf33, 800, .inl f33)), (qf5, .inl (cf5, 3002, .inl f5)), (qf6, .inl (cf6, 3002, .inl f6)), (qf2, .inl (cf2, 3000, .inl f2)), (qf25, .inl (cf25, 400, .inl f25)), (qf35, .inl (cf35, 800, .inl g35_231)), (qf34, .inl (cf34, 800, .inl f34)), (qf29, .inl (cf29, 800, .inl f29)), (qf30, .inl (cf30, 800, .inl f30)), (qf37, .inl (cf37, 800, .inl f37)), (qf36, .inl (cf36, 800, .inl f36)), (qf40, .inl (cf40, 1500, .inl f40)), (qf41, .inl (cf41, 1500, .inl f41)), (qf42, .inl (cf42, 1500, .inl f42)), (qf44, .inl (cf44, 1500, .inl g44_231)), (qf43, .inl (cf43, 1500, .inl f43))]) [0, 1, 2, 3, 4, 5, 6, 7, 8, 9, 10, 11, 12, 13, 14, 15, 16, 17, 18] rfl
        replace hD := hD.sub (ws' := [(h0, .inr (13, z231)), (qf31, .inl (cf31, 800, .inl f31)), (qf32, .inl (cf32, 800, .inl f32)), (qf33, .inl (cf33, 800, .inl f33)), (qf5, .inl (cf5, 3002, .inl f5)), (qf6, .inl (cf6, 3002, .inl f6)), (qf2, .inl (cf2, 3000, .inl f2)), (qf25, .inl (cf25, 400, .inl f25)), (qf35, .inl (cf35, 800, .inl g35_231)), (qf34, .inl (cf34, 800, .inl f34)), (qf29, .inl (cf29, 800, .inl f29)), (qf30, .inl (cf30, 800, .inl f30)), (qf37, .inl (cf37, 800, .inl f37)), (qf36, .inl (cf36, 800, .inl f36)), (qf40, .inl (cf40, 1500, .inl f40)), (qf41, .inl (cf41, 1500, .inl f41)), (qf42, .inl (cf42, 1500, .inl f42)), (qf44, .inl (cf44, 1500, .inl g44_231)), (qf43, .inl (cf43, 1500, .inl f43))]) [0, 1, 2, 3, 4, 5, 6, 7, 8, 9, 10, 11, 12, 13, 14, 15, 16, 17, 18] (by decide) rfl
        replace hK := hK.sub (tys' := [(cf31, .int), (cf32, .int), (cf33, .boolean), (cf5, .int), (cf6, .int), (cf2, .int), (cf25, .int), (cf35, .int), (cf34, .int), (cf29, .int), (cf30, .int), (cf37, .int), (cf36, .int), (cf40, .int), (cf41, .int), (cf42, .boolean), (cf44, .int), (cf43, .int)]) [0, 1, 2, 3, 4, 5, 6, 7, 8, 9, 10, 11, 12, 13, 14, 15, 16, 17] rfl
        obtain ⟨n_239, hn_239⟩ : ∃ z : Nat, z = nf := ⟨_, rfl⟩
        obtain ⟨l1_239, el1_239⟩ : ∃ z : Int32, z = l1_231 := ⟨_, rfl⟩
        obtain ⟨l4_239, el4_239⟩ : ∃ z : Int32, z = l4_231 := ⟨_, rfl⟩
        obtain ⟨l5_239, el5_239⟩ : ∃ z : Int32, z = l5_231 := ⟨_, rfl⟩
        obtain ⟨l6_239, el6_239⟩ : ∃ z : Int32, z = (f36 (l1_231 : Int32).toNatClampNeg) := ⟨_, rfl⟩
        obtain ⟨g35_239, eg35_239⟩ : ∃ z : Nat → Int32, z = g35_231 := ⟨_, rfl⟩
        obtain ⟨g44_239, eg44_239⟩ : ∃ z : Nat → Int32, z = g44_231 := ⟨_, rfl⟩
        obtain ⟨x10_239, ex10_239⟩ : ∃ z : Int32, z = x10_231 := ⟨_, rfl⟩
        obtain ⟨x9_239, ex9_239⟩ : ∃ z : Int32, z = x9_231 := ⟨_, rfl⟩
        replace hsp : lp_vm_memberHead_239 nf n_239 a1 v9 v10 v24 f31 f32 f33 f5 f6 f2 f25 f35 f34 f29 f30 f37 f36 f40 f41 f42 f44 f43 nS477 fS477 (lp_vm_memberHead_157 nf n_157 a1 v9 v10 v24 f31 f32 f33 f5 f6 f2 f25 f35 f34 f29 f30 f37 f36 f40 f41 f42 f44 f43 nS477 fS477) l1_239 l4_239 l5_239 l6_239 g35_239 g44_239 x10_239 x9_239 = some (o35, o44, w10, w9) := by rw [hn_239, el1_239, el4_239, el5_239, el6_239, eg35_239, eg44_239, ex10_239, ex9_239]; exact hsp
        replace hl : lv_has ls 7 [(6, .int l6_239), (0, .ref h0), (1, .int l1_239), (4, .int l4_239), (5, .int l5_239)] := by rw [el1_239, el4_239, el5_239, el6_239]; exact hl
        obtain ⟨z239, ez239⟩ : ∃ z : List Value, z = z231 := ⟨_, rfl⟩
        have hfh_239_2 : z239[2]? = some (.ref qf2) := by rw [ez239]; exact hfh_231_2
        have hfh_239_5 : z239[5]? = some (.ref qf5) := by rw [ez239]; exact hfh_231_5
        have hfh_239_6 : z239[6]? = some (.ref qf6) := by rw [ez239]; exact hfh_231_6
        have hfh_239_9 : z239[9]? = some (.int x9_239) := by rw [ez239, ex9_239]; exact hfh_231_9
        have hfh_239_10 : z239[10]? = some (.int x10_239) := by rw [ez239, ex10_239]; exact hfh_231_10
        have hfh_239_24 : z239[24]? = some (.int v24) := by rw [ez239]; exact hfh_231_24
        have hfh_239_25 : z239[25]? = some (.ref qf25) := by rw [ez239]; exact hfh_231_25
        have hfh_239_29 : z239[29]? = some (.ref qf29) := by rw [ez239]; exact hfh_231_29
        have hfh_239_30 : z239[30]? = some (.ref qf30) := by rw [ez239]; exact hfh_231_30
        have hfh_239_31 : z239[31]? = some (.ref qf31) := by rw [ez239]; exact hfh_231_31
        have hfh_239_32 : z239[32]? = some (.ref qf32) := by rw [ez239]; exact hfh_231_32
        have hfh_239_33 : z239[33]? = some (.ref qf33) := by rw [ez239]; exact hfh_231_33
        have hfh_239_34 : z239[34]? = some (.ref qf34) := by rw [ez239]; exact hfh_231_34
        have hfh_239_35 : z239[35]? = some (.ref qf35) := by rw [ez239]; exact hfh_231_35
        have hfh_239_36 : z239[36]? = some (.ref qf36) := by rw [ez239]; exact hfh_231_36
        have hfh_239_37 : z239[37]? = some (.ref qf37) := by rw [ez239]; exact hfh_231_37
        have hfh_239_40 : z239[40]? = some (.ref qf40) := by rw [ez239]; exact hfh_231_40
        have hfh_239_41 : z239[41]? = some (.ref qf41) := by rw [ez239]; exact hfh_231_41
        have hfh_239_42 : z239[42]? = some (.ref qf42) := by rw [ez239]; exact hfh_231_42
        have hfh_239_43 : z239[43]? = some (.ref qf43) := by rw [ez239]; exact hfh_231_43
        have hfh_239_44 : z239[44]? = some (.ref qf44) := by rw [ez239]; exact hfh_231_44
        have hlh_239 : z239.length = 155 := by rw [ez239]; exact hlh_231
        have hrh_239 : ∀ j : Nat, j ≠ 10 → j ≠ 9 → z239[j]? = zs[j]? := by rw [ez239]; exact hrh_231
        replace hP : va_P (dC, dI) vwCl [(h0, .inr (13, z239)), (qf31, .inl (cf31, 800, .inl f31)), (qf32, .inl (cf32, 800, .inl f32)), (qf33, .inl (cf33, 800, .inl f33)), (qf5, .inl (cf5, 3002, .inl f5)), (qf6, .inl (cf6, 3002, .inl f6)), (qf2, .inl (cf2, 3000, .inl f2)), (qf25, .inl (cf25, 400, .inl f25)), (qf35, .inl (cf35, 800, .inl g35_239)), (qf34, .inl (cf34, 800, .inl f34)), (qf29, .inl (cf29, 800, .inl f29)), (qf30, .inl (cf30, 800, .inl f30)), (qf37, .inl (cf37, 800, .inl f37)), (qf36, .inl (cf36, 800, .inl f36)), (qf40, .inl (cf40, 1500, .inl f40)), (qf41, .inl (cf41, 1500, .inl f41)), (qf42, .inl (cf42, 1500, .inl f42)), (qf44, .inl (cf44, 1500, .inl g44_239)), (qf43, .inl (cf43, 1500, .inl f43))] H := by rw [ez239, eg35_239, eg44_239]; exact hP
        replace hD : va_D A [(h0, .inr (13, z239)), (qf31, .inl (cf31, 800, .inl f31)), (qf32, .inl (cf32, 800, .inl f32)), (qf33, .inl (cf33, 800, .inl f33)), (qf5, .inl (cf5, 3002, .inl f5)), (qf6, .inl (cf6, 3002, .inl f6)), (qf2, .inl (cf2, 3000, .inl f2)), (qf25, .inl (cf25, 400, .inl f25)), (qf35, .inl (cf35, 800, .inl g35_239)), (qf34, .inl (cf34, 800, .inl f34)), (qf29, .inl (cf29, 800, .inl f29)), (qf30, .inl (cf30, 800, .inl f30)), (qf37, .inl (cf37, 800, .inl f37)), (qf36, .inl (cf36, 800, .inl f36)), (qf40, .inl (cf40, 1500, .inl f40)), (qf41, .inl (cf41, 1500, .inl f41)), (qf42, .inl (cf42, 1500, .inl f42)), (qf44, .inl (cf44, 1500, .inl g44_239)), (qf43, .inl (cf43, 1500, .inl f43))] := by rw [ez239, eg35_239, eg44_239]; exact hD
        clear hn_239 ez239 el1_239 el4_239 el5_239 el6_239 eg35_239 eg44_239 ex10_239 ex9_239
        try clear hlo
        try clear hH
        revert hsp
        revert hP
        revert hD
        revert hS
        revert hl
        revert hrh_239
        revert hlh_239
        revert hfh_239_44
        revert hfh_239_43
        revert hfh_239_42
        revert hfh_239_41
        revert hfh_239_40
        revert hfh_239_37
        revert hfh_239_36
        revert hfh_239_35
        revert hfh_239_34
        revert hfh_239_33
        revert hfh_239_32
        revert hfh_239_31
        revert hfh_239_30
        revert hfh_239_29
        revert hfh_239_25
        revert hfh_239_24
        revert hfh_239_10
        revert hfh_239_9
        revert hfh_239_6
        revert hfh_239_5
        revert hfh_239_2
        revert x9_239
        revert x10_239
        revert g44_239
        revert g35_239
        revert l6_239
        revert l5_239
        revert l4_239
        revert l1_239
        revert z239
        revert ls
        revert locs
        revert H
        induction n_239 with
        | zero => intro H locs ls z239 l1_239 l4_239 l5_239 l6_239 g35_239 g44_239 x10_239 x9_239 hfh_239_2 hfh_239_5 hfh_239_6 hfh_239_9 hfh_239_10 hfh_239_24 hfh_239_25 hfh_239_29 hfh_239_30 hfh_239_31 hfh_239_32 hfh_239_33 hfh_239_34 hfh_239_35 hfh_239_36 hfh_239_37 hfh_239_40 hfh_239_41 hfh_239_42 hfh_239_43 hfh_239_44 hlh_239 hrh_239 hl hS hD hP hsp; unfold lp_vm_memberHead_239 at hsp; cases hsp
        | succ n_239 ih_239 =>
          intro H locs ls z239 l1_239 l4_239 l5_239 l6_239 g35_239 g44_239 x10_239 x9_239 hfh_239_2 hfh_239_5 hfh_239_6 hfh_239_9 hfh_239_10 hfh_239_24 hfh_239_25 hfh_239_29 hfh_239_30 hfh_239_31 hfh_239_32 hfh_239_33 hfh_239_34 hfh_239_35 hfh_239_36 hfh_239_37 hfh_239_40 hfh_239_41 hfh_239_42 hfh_239_43 hfh_239_44 hlh_239 hrh_239 hl hS hD hP hsp
          unfold lp_vm_memberHead_239 at hsp
          try dsimp only at hsp
          refine lv_iload hx hb dX13_memberHead_239 (lv_at hl 0 rfl) ?_
          refine lv_iload hx hb dX13_memberHead_241 (lv_at hl 4 rfl) ?_
          refine lv_icmp_ge (tgt := 285) hx hb dX13_memberHead_243 (by decide) (fun c_33 => ?_) (fun c_33 => ?_)
          · rw [if_pos c_33] at hsp
            refine lv_iinc (v := (l4_239 + 1)) (lv' := [(4, .int (l4_239 + 1)), (6, .int l6_239), (0, .ref h0), (1, .int l1_239), (5, .int l5_239)]) hx hb dX13_memberHead_285 hl (k := 3) rfl rfl (by decide) rfl (fun ls hl => ?_)
            refine lv_goto (tgt := 157) hx hb dX13_memberHead_288 (by decide) ?_
            exact ih_157 H locs ls z239 l1_239 (l4_239 + 1) g35_239 g44_239 x10_239 x9_239 (hfh_239_2) (hfh_239_5) (hfh_239_6) (hfh_239_9) (hfh_239_10) (hfh_239_24) (hfh_239_25) (hfh_239_29) (hfh_239_30) (hfh_239_31) (hfh_239_32) (hfh_239_33) (hfh_239_34) (hfh_239_35) (hfh_239_36) (hfh_239_37) (hfh_239_40) (hfh_239_41) (hfh_239_42) (hfh_239_43) (hfh_239_44) hlh_239 hrh_239 (lv_sub hl [0, 2, 3] rfl) hS (hD.sub (ws' := [(h0, .inr (13, z239)), (qf31, .inl (cf31, 800, .inl f31)), (qf32, .inl (cf32, 800, .inl f32)), (qf33, .inl (cf33, 800, .inl f33)), (qf5, .inl (cf5, 3002, .inl f5)), (qf6, .inl (cf6, 3002, .inl f6)), (qf2, .inl (cf2, 3000, .inl f2)), (qf25, .inl (cf25, 400, .inl f25)), (qf35, .inl (cf35, 800, .inl g35_239)), (qf34, .inl (cf34, 800, .inl f34)), (qf29, .inl (cf29, 800, .inl f29)), (qf30, .inl (cf30, 800, .inl f30)), (qf37, .inl (cf37, 800, .inl f37)), (qf36, .inl (cf36, 800, .inl f36)), (qf40, .inl (cf40, 1500, .inl f40)), (qf41, .inl (cf41, 1500, .inl f41)), (qf42, .inl (cf42, 1500, .inl f42)), (qf44, .inl (cf44, 1500, .inl g44_239)), (qf43, .inl (cf43, 1500, .inl f43))]) [0, 1, 2, 3, 4, 5, 6, 7, 8, 9, 10, 11, 12, 13, 14, 15, 16, 17, 18] (by decide) rfl) (hP.sub (ws' := [(h0, .inr (13, z239)), (qf31, .inl (cf31, 800, .inl f31)), (qf32, .inl (cf32, 800, .inl f32)), (qf33, .inl (cf33, 800, .inl f33)), (qf5, .inl (cf5, 3002, .inl f5)), (qf6, .inl (cf6, 3002, .inl f6)), (qf2, .inl (cf2, 3000, .inl f2)), (qf25, .inl (cf25, 400, .inl f25)), (qf35, .inl (cf35, 800, .inl g35_239)), (qf34, .inl (cf34, 800, .inl f34)), (qf29, .inl (cf29, 800, .inl f29)), (qf30, .inl (cf30, 800, .inl f30)), (qf37, .inl (cf37, 800, .inl f37)), (qf36, .inl (cf36, 800, .inl f36)), (qf40, .inl (cf40, 1500, .inl f40)), (qf41, .inl (cf41, 1500, .inl f41)), (qf42, .inl (cf42, 1500, .inl f42)), (qf44, .inl (cf44, 1500, .inl g44_239)), (qf43, .inl (cf43, 1500, .inl f43))]) [0, 1, 2, 3, 4, 5, 6, 7, 8, 9, 10, 11, 12, 13, 14, 15, 16, 17, 18] rfl) hsp
          · rw [if_neg c_33] at hsp
            refine lv_aload_n hx hb dX13_memberHead_246 rfl (lv_at hl 1 rfl) ?_
            refine lv_aload_n hx hb dX13_memberHead_247 rfl (lv_at hl 1 rfl) ?_
            refine va_get (D := (dC, dI)) (ci := 13) (v := .ref qf43) (C := RX13) (T := TX13) (N := 155) hx hb hts uV_h9_X13 hown hK hP 0 rfl rfl 43 (by decide) (hts (.fieldLink RX13 110 "ClassMillModel" "parameterName" "[I") mw_h9_112) (fun _ h9 => h9) hfh_239_43 dX13_memberHead_248 ?_
            refine lv_iload hx hb dX13_memberHead_251 (lv_at hl 0 rfl) ?_
            obtain ⟨hi_34, hsp⟩ := ox_in hsp
            refine va_iald hx hb hK hP 18 17 rfl rfl (i := l6_239) hi_34 dX13_memberHead_253 ?_
            refine lv_aload_n hx hb dX13_memberHead_254 rfl (lv_at hl 1 rfl) ?_
            refine va_get (D := (dC, dI)) (ci := 13) (v := .ref qf43) (C := RX13) (T := TX13) (N := 155) hx hb hts uV_h9_X13 hown hK hP 0 rfl rfl 43 (by decide) (hts (.fieldLink RX13 110 "ClassMillModel" "parameterName" "[I") mw_h9_112) (fun _ h9 => h9) hfh_239_43 dX13_memberHead_255 ?_
            refine lv_iload hx hb dX13_memberHead_258 (lv_at hl 4 rfl) ?_
            obtain ⟨hi_35, hsp⟩ := ox_in hsp
            refine va_iald hx hb hK hP 18 17 rfl rfl (i := l5_239) hi_35 dX13_memberHead_260 ?_
            obtain ⟨u7_0, hu_7, hsp⟩ := ox_bind hsp
            try dsimp only at hsp
            have hPc := hP.sub (ws' := [(h0, .inr (13, z239)), (qf6, .inl (cf6, 3002, .inl f6)), (qf5, .inl (cf5, 3002, .inl f5)), (qf2, .inl (cf2, 3000, .inl f2))]) [0, 5, 4, 6] rfl
            have hDc := hD.sub (ws' := [(h0, .inr (13, z239)), (qf6, .inl (cf6, 3002, .inl f6)), (qf5, .inl (cf5, 3002, .inl f5)), (qf2, .inl (cf2, 3000, .inl f2))]) [0, 5, 4, 6] (by decide) rfl
            have hKc := hK.sub (tys' := [(cf6, .int), (cf5, .int), (cf2, .int)]) [4, 3, 5] rfl
            have hFc := va_free (wc := [(h0, .inr (13, z239)), (qf6, .inl (cf6, 3002, .inl f6)), (qf5, .inl (cf5, 3002, .inl f5)), (qf2, .inl (cf2, 3000, .inl f2))]) hD hS hA [0, 5, 4, 6] rfl
            refine va_calli (va_runV (As := [.int (f43 (l6_239 : Int32).toNatClampNeg), .int (f43 (l5_239 : Int32).toNatClampNeg)]) (rest := []) ⟨hx, hb, hml, hown, hts⟩ (tn_isLike l dC dI H.size h0 z239 ((f43 (l6_239 : Int32).toNatClampNeg)) ((f43 (l5_239 : Int32).toNatClampNeg)) qf2 qf5 qf6 cf6 f6 cf5 f5 cf2 f2 nf u7_0 hlh_239 hfh_239_2 hfh_239_5 hfh_239_6 hu_7) (cwV 2 hts gv_h9_16 rfl rfl rfl (by decide +kernel) ⟨Nat.le_of_ble_eq_true rfl, Nat.le_of_ble_eq_true rfl⟩) ⟨fun a U g mk q => by obtain ⟨q0, q1, qP, qK, qD⟩ := q; exact ⟨q0, q1, qP, va_K.moved (u := U) (U := U.calling g mk a) (Vm.Alike.refl U.vm) qK, qD⟩, va_recv hKc hPc (ci := 13) (q0 := 0) rfl rfl, fun U hU hW => ⟨rfl, by rw [hU], by rw [hU]; exact hPc, va_K.moved hW.alike hKc, hDc.weaken (fun _ _ _ _ => trivial)⟩⟩ rfl rfl hl.1 rfl (lv_room (Nat.le_of_ble_eq_true rfl)) dX13_memberHead_261 ⟨Nat.le_of_ble_eq_true rfl, Nat.le_of_ble_eq_true rfl⟩) hS (fun q _ h => hFc q h) hFc ?_
            clear hS
            intro r_36 u t H1 locs ht hvm hw hB hz1 hk1 hS
            obtain ⟨z_7, rfl⟩ : ∃ z, z = u := ⟨_, rfl⟩
            obtain ⟨hP1, hK1, hD1⟩ := hB
            rw [ht] at hP1
            have hK1 := va_K.moved hvm.symm hK1
            try dsimp only at hw
            have hPD := va_join (wr := [(qf31, .inl (cf31, 800, .inl f31)), (qf32, .inl (cf32, 800, .inl f32)), (qf33, .inl (cf33, 800, .inl f33)), (qf25, .inl (cf25, 400, .inl f25)), (qf35, .inl (cf35, 800, .inl g35_239)), (qf34, .inl (cf34, 800, .inl f34)), (qf29, .inl (cf29, 800, .inl f29)), (qf30, .inl (cf30, 800, .inl f30)), (qf37, .inl (cf37, 800, .inl f37)), (qf36, .inl (cf36, 800, .inl f36)), (qf40, .inl (cf40, 1500, .inl f40)), (qf41, .inl (cf41, 1500, .inl f41)), (qf42, .inl (cf42, 1500, .inl f42)), (qf44, .inl (cf44, 1500, .inl g44_239)), (qf43, .inl (cf43, 1500, .inl f43))]) (w1 := [(h0, .inr (13, z_7)), (qf6, .inl (cf6, 3002, .inl f6)), (qf5, .inl (cf5, 3002, .inl f5)), (qf2, .inl (cf2, 3000, .inl f2))]) hP hD [0, 5, 4, 6] [1, 2, 3, 7, 8, 9, 10, 11, 12, 13, 14, 15, 16, 17, 18] rfl rfl (by decide) (by decide) hk1 hFc hP1 hD1
            clear hP hD
            obtain ⟨hP, hD⟩ := hPD
            replace hK := (hK.sub (tys' := [(cf31, .int), (cf32, .int), (cf33, .boolean), (cf25, .int), (cf35, .int), (cf34, .int), (cf29, .int), (cf30, .int), (cf37, .int), (cf36, .int), (cf40, .int), (cf41, .int), (cf42, .boolean), (cf44, .int), (cf43, .int)]) [0, 1, 2, 6, 7, 8, 9, 10, 11, 12, 13, 14, 15, 16, 17] rfl).app hK1
            clear hPc hDc hKc hFc hP1 hK1 hD1 hz1 hk1 ht hvm
            generalize H1 = H at hP hS ⊢
            replace hP : va_P (dC, dI) vwCl [(qf31, .inl (cf31, 800, .inl f31)), (qf32, .inl (cf32, 800, .inl f32)), (qf33, .inl (cf33, 800, .inl f33)), (qf25, .inl (cf25, 400, .inl f25)), (qf35, .inl (cf35, 800, .inl g35_239)), (qf34, .inl (cf34, 800, .inl f34)), (qf29, .inl (cf29, 800, .inl f29)), (qf30, .inl (cf30, 800, .inl f30)), (qf37, .inl (cf37, 800, .inl f37)), (qf36, .inl (cf36, 800, .inl f36)), (qf40, .inl (cf40, 1500, .inl f40)), (qf41, .inl (cf41, 1500, .inl f41)), (qf42, .inl (cf42, 1500, .inl f42)), (qf44, .inl (cf44, 1500, .inl g44_239)), (qf43, .inl (cf43, 1500, .inl f43)), (h0, .inr (13, z_7)), (qf6, .inl (cf6, 3002, .inl f6)), (qf5, .inl (cf5, 3002, .inl f5)), (qf2, .inl (cf2, 3000, .inl f2))] H := hP
            replace hD : va_D A [(qf31, .inl (cf31, 800, .inl f31)), (qf32, .inl (cf32, 800, .inl f32)), (qf33, .inl (cf33, 800, .inl f33)), (qf25, .inl (cf25, 400, .inl f25)), (qf35, .inl (cf35, 800, .inl g35_239)), (qf34, .inl (cf34, 800, .inl f34)), (qf29, .inl (cf29, 800, .inl f29)), (qf30, .inl (cf30, 800, .inl f30)), (qf37, .inl (cf37, 800, .inl f37)), (qf36, .inl (cf36, 800, .inl f36)), (qf40, .inl (cf40, 1500, .inl f40)), (qf41, .inl (cf41, 1500, .inl f41)), (qf42, .inl (cf42, 1500, .inl f42)), (qf44, .inl (cf44, 1500, .inl g44_239)), (qf43, .inl (cf43, 1500, .inl f43)), (h0, .inr (13, z_7)), (qf6, .inl (cf6, 3002, .inl f6)), (qf5, .inl (cf5, 3002, .inl f5)), (qf2, .inl (cf2, 3000, .inl f2))] := hD
            replace hK : va_K (dC, dI) vwCl [(cf31, .int), (cf32, .int), (cf33, .boolean), (cf25, .int), (cf35, .int), (cf34, .int), (cf29, .int), (cf30, .int), (cf37, .int), (cf36, .int), (cf40, .int), (cf41, .int), (cf42, .boolean), (cf44, .int), (cf43, .int), (cf6, .int), (cf5, .int), (cf2, .int)] s := hK
            obtain ⟨hwa_7, hln_7, hre_7⟩ := hw
            have hfk_7_2 : z_7[2]? = some (.ref qf2) := (hre_7 2 ).trans (hfh_239_2)
            have hfk_7_5 : z_7[5]? = some (.ref qf5) := (hre_7 5 ).trans (hfh_239_5)
            have hfk_7_6 : z_7[6]? = some (.ref qf6) := (hre_7 6 ).trans (hfh_239_6)
            have hfk_7_9 : z_7[9]? = some (.int x9_239) := (hre_7 9 ).trans (hfh_239_9)
            have hfk_7_10 : z_7[10]? = some (.int x10_239) := (hre_7 10 ).trans (hfh_239_10)
            have hfk_7_24 : z_7[24]? = some (.int v24) := (hre_7 24 ).trans (hfh_239_24)
            have hfk_7_25 : z_7[25]? = some (.ref qf25) := (hre_7 25 ).trans (hfh_239_25)
            have hfk_7_29 : z_7[29]? = some (.ref qf29) := (hre_7 29 ).trans (hfh_239_29)
            have hfk_7_30 : z_7[30]? = some (.ref qf30) := (hre_7 30 ).trans (hfh_239_30)
            have hfk_7_31 : z_7[31]? = some (.ref qf31) := (hre_7 31 ).trans (hfh_239_31)
            have hfk_7_32 : z_7[32]? = some (.ref qf32) := (hre_7 32 ).trans (hfh_239_32)
            have hfk_7_33 : z_7[33]? = some (.ref qf33) := (hre_7 33 ).trans (hfh_239_33)
            have hfk_7_34 : z_7[34]? = some (.ref qf34) := (hre_7 34 ).trans (hfh_239_34)
            have hfk_7_35 : z_7[35]? = some (.ref qf35) := (hre_7 35 ).trans (hfh_239_35)
            have hfk_7_36 : z_7[36]? = some (.ref qf36) := (hre_7 36 ).trans (hfh_239_36)
            have hfk_7_37 : z_7[37]? = some (.ref qf37) := (hre_7 37 ).trans (hfh_239_37)
            have hfk_7_40 : z_7[40]? = some (.ref qf40) := (hre_7 40 ).trans (hfh_239_40)
            have hfk_7_41 : z_7[41]? = some (.ref qf41) := (hre_7 41 ).trans (hfh_239_41)
            have hfk_7_42 : z_7[42]? = some (.ref qf42) := (hre_7 42 ).trans (hfh_239_42)
            have hfk_7_43 : z_7[43]? = some (.ref qf43) := (hre_7 43 ).trans (hfh_239_43)
            have hfk_7_44 : z_7[44]? = some (.ref qf44) := (hre_7 44 ).trans (hfh_239_44)
            have hrq_7 : ∀ j : Nat, j ≠ 10 → j ≠ 9 → z_7[j]? = zs[j]? := fun j g10 g9 => (hre_7 j ).trans (hrh_239 j g10 g9)
            obtain ⟨rfl, hz_7⟩ := hwa_7
            rcases hz_7 with rfl | rfl
            · rw [if_pos rfl] at hsp
              refine lv_if_eq (tgt := 279) hx hb dX13_memberHead_264 (by decide) (fun c_37 => ?_) (fun c_37 => (show False by revert c_37; decide).elim)
              refine lv_iinc (v := (l6_239 + 1)) (lv' := [(6, .int (l6_239 + 1)), (0, .ref h0), (1, .int l1_239), (4, .int l4_239), (5, .int l5_239)]) hx hb dX13_memberHead_279 hl (k := 0) rfl rfl (by decide) rfl (fun ls hl => ?_)
              refine lv_goto (tgt := 239) hx hb dX13_memberHead_282 (by decide) ?_
              exact ih_239 H locs ls z_7 l1_239 l4_239 l5_239 (l6_239 + 1) g35_239 g44_239 x10_239 x9_239 (hfk_7_2) (hfk_7_5) (hfk_7_6) (hfk_7_9) (hfk_7_10) (hfk_7_24) (hfk_7_25) (hfk_7_29) (hfk_7_30) (hfk_7_31) (hfk_7_32) (hfk_7_33) (hfk_7_34) (hfk_7_35) (hfk_7_36) (hfk_7_37) (hfk_7_40) (hfk_7_41) (hfk_7_42) (hfk_7_43) (hfk_7_44) hln_7 hrq_7 (lv_sub hl [0, 1, 2, 3, 4] rfl) hS (hD.sub (ws' := [(h0, .inr (13, z_7)), (qf31, .inl (cf31, 800, .inl f31)), (qf32, .inl (cf32, 800, .inl f32)), (qf33, .inl (cf33, 800, .inl f33)), (qf5, .inl (cf5, 3002, .inl f5)), (qf6, .inl (cf6, 3002, .inl f6)), (qf2, .inl (cf2, 3000, .inl f2)), (qf25, .inl (cf25, 400, .inl f25)), (qf35, .inl (cf35, 800, .inl g35_239)), (qf34, .inl (cf34, 800, .inl f34)), (qf29, .inl (cf29, 800, .inl f29)), (qf30, .inl (cf30, 800, .inl f30)), (qf37, .inl (cf37, 800, .inl f37)), (qf36, .inl (cf36, 800, .inl f36)), (qf40, .inl (cf40, 1500, .inl f40)), (qf41, .inl (cf41, 1500, .inl f41)), (qf42, .inl (cf42, 1500, .inl f42)), (qf44, .inl (cf44, 1500, .inl g44_239)), (qf43, .inl (cf43, 1500, .inl f43))]) [15, 0, 1, 2, 17, 16, 18, 3, 4, 5, 6, 7, 8, 9, 10, 11, 12, 13, 14] (by decide) rfl) (hP.sub (ws' := [(h0, .inr (13, z_7)), (qf31, .inl (cf31, 800, .inl f31)), (qf32, .inl (cf32, 800, .inl f32)), (qf33, .inl (cf33, 800, .inl f33)), (qf5, .inl (cf5, 3002, .inl f5)), (qf6, .inl (cf6, 3002, .inl f6)), (qf2, .inl (cf2, 3000, .inl f2)), (qf25, .inl (cf25, 400, .inl f25)), (qf35, .inl (cf35, 800, .inl g35_239)), (qf34, .inl (cf34, 800, .inl f34)), (qf29, .inl (cf29, 800, .inl f29)), (qf30, .inl (cf30, 800, .inl f30)), (qf37, .inl (cf37, 800, .inl f37)), (qf36, .inl (cf36, 800, .inl f36)), (qf40, .inl (cf40, 1500, .inl f40)), (qf41, .inl (cf41, 1500, .inl f41)), (qf42, .inl (cf42, 1500, .inl f42)), (qf44, .inl (cf44, 1500, .inl g44_239)), (qf43, .inl (cf43, 1500, .inl f43))]) [15, 0, 1, 2, 17, 16, 18, 3, 4, 5, 6, 7, 8, 9, 10, 11, 12, 13, 14] rfl) hsp
            · rw [if_neg (by decide)] at hsp
              refine lv_if_eq (tgt := 279) hx hb dX13_memberHead_264 (by decide) (fun c_38 => (show False by revert c_38; decide).elim) (fun c_38 => ?_)
              refine lv_aload_n hx hb dX13_memberHead_267 rfl (lv_at hl 1 rfl) ?_
              refine lv_iconst (v := 4) hx hb dX13_memberHead_268 (by decide) ?_
              refine lv_aload_n hx hb dX13_memberHead_269 rfl (lv_at hl 1 rfl) ?_
              refine va_get (D := (dC, dI)) (ci := 13) (v := .ref qf43) (C := RX13) (T := TX13) (N := 155) hx hb hts uV_h9_X13 hown hK hP 15 rfl rfl 43 (by decide) (hts (.fieldLink RX13 110 "ClassMillModel" "parameterName" "[I") mw_h9_112) (fun _ h9 => h9) hfk_7_43 dX13_memberHead_270 ?_
              refine lv_iload hx hb dX13_memberHead_273 (lv_at hl 4 rfl) ?_
              obtain ⟨hi_39, hsp⟩ := ox_in hsp
              refine va_iald hx hb hK hP 14 14 rfl rfl (i := l5_239) hi_39 dX13_memberHead_275 ?_
              obtain ⟨⟨u8_0, u8_1⟩, hu_8, hsp⟩ := ox_bind hsp
              try dsimp only at hsp
              have hPc := hP.sub (ws' := [(h0, .inr (13, z_7)), (qf5, .inl (cf5, 3002, .inl f5))]) [15, 17] rfl
              have hDc := hD.sub (ws' := [(h0, .inr (13, z_7)), (qf5, .inl (cf5, 3002, .inl f5))]) [15, 17] (by decide) rfl
              have hKc := hK.sub (tys' := [(cf5, .int)]) [16] rfl
              have hFc := va_free (wc := [(h0, .inr (13, z_7)), (qf5, .inl (cf5, 3002, .inl f5))]) hD hS hA [15, 17] rfl
              refine va_callv (va_runV (As := [.int 4, .int (f43 (l5_239 : Int32).toNatClampNeg)]) (rest := []) ⟨hx, hb, hml, hown, hts⟩ (tm_wrong l dC dI H.size h0 z_7 4 ((f43 (l5_239 : Int32).toNatClampNeg)) qf5 x9_239 x10_239 cf5 f5 nf u8_0 u8_1 hln_7 hfk_7_5 hfk_7_9 hfk_7_10 hu_8) (cwV 2 hts gv_h9_18 rfl rfl rfl (by decide +kernel) ⟨Nat.le_of_ble_eq_true rfl, Nat.le_of_ble_eq_true rfl⟩) ⟨fun a U g mk q => by obtain ⟨q0, q1, qP, qK, qD⟩ := q; exact ⟨q0, q1, qP, va_K.moved (u := U) (U := U.calling g mk a) (Vm.Alike.refl U.vm) qK, qD⟩, va_recv hKc hPc (ci := 13) (q0 := 0) rfl rfl, fun U hU hW => ⟨rfl, by rw [hU], by rw [hU]; exact hPc, va_K.moved hW.alike hKc, hDc.weaken (fun _ _ _ _ => trivial)⟩⟩ rfl rfl hl.1 rfl (lv_room (Nat.le_of_ble_eq_true rfl)) dX13_memberHead_276 ⟨Nat.le_of_ble_eq_true rfl, Nat.le_of_ble_eq_true rfl⟩) hS (fun q _ h => hFc q h) hFc ?_
              clear hS
              intro u t H1 locs ht hvm hw hB hz1 hk1 hS
              obtain ⟨z_8, rfl⟩ : ∃ z, z = u := ⟨_, rfl⟩
              obtain ⟨hP1, hK1, hD1⟩ := hB
              rw [ht] at hP1
              have hK1 := va_K.moved hvm.symm hK1
              try dsimp only at hw
              have hPD := va_join (wr := [(qf31, .inl (cf31, 800, .inl f31)), (qf32, .inl (cf32, 800, .inl f32)), (qf33, .inl (cf33, 800, .inl f33)), (qf25, .inl (cf25, 400, .inl f25)), (qf35, .inl (cf35, 800, .inl g35_239)), (qf34, .inl (cf34, 800, .inl f34)), (qf29, .inl (cf29, 800, .inl f29)), (qf30, .inl (cf30, 800, .inl f30)), (qf37, .inl (cf37, 800, .inl f37)), (qf36, .inl (cf36, 800, .inl f36)), (qf40, .inl (cf40, 1500, .inl f40)), (qf41, .inl (cf41, 1500, .inl f41)), (qf42, .inl (cf42, 1500, .inl f42)), (qf44, .inl (cf44, 1500, .inl g44_239)), (qf43, .inl (cf43, 1500, .inl f43)), (qf6, .inl (cf6, 3002, .inl f6)), (qf2, .inl (cf2, 3000, .inl f2))]) (w1 := [(h0, .inr (13, z_8)), (qf5, .inl (cf5, 3002, .inl f5))]) hP hD [15, 17] [0, 1, 2, 3, 4, 5, 6, 7, 8, 9, 10, 11, 12, 13, 14, 16, 18] rfl rfl (by decide) (by decide) hk1 hFc hP1 hD1
              clear hP hD
              obtain ⟨hP, hD⟩ := hPD
              replace hK := (hK.sub (tys' := [(cf31, .int), (cf32, .int), (cf33, .boolean), (cf25, .int), (cf35, .int), (cf34, .int), (cf29, .int), (cf30, .int), (cf37, .int), (cf36, .int), (cf40, .int), (cf41, .int), (cf42, .boolean), (cf44, .int), (cf43, .int), (cf6, .int), (cf2, .int)]) [0, 1, 2, 3, 4, 5, 6, 7, 8, 9, 10, 11, 12, 13, 14, 15, 17] rfl).app hK1
              clear hPc hDc hKc hFc hP1 hK1 hD1 hz1 hk1 ht hvm
              generalize H1 = H at hP hS ⊢
              replace hP : va_P (dC, dI) vwCl [(qf31, .inl (cf31, 800, .inl f31)), (qf32, .inl (cf32, 800, .inl f32)), (qf33, .inl (cf33, 800, .inl f33)), (qf25, .inl (cf25, 400, .inl f25)), (qf35, .inl (cf35, 800, .inl g35_239)), (qf34, .inl (cf34, 800, .inl f34)), (qf29, .inl (cf29, 800, .inl f29)), (qf30, .inl (cf30, 800, .inl f30)), (qf37, .inl (cf37, 800, .inl f37)), (qf36, .inl (cf36, 800, .inl f36)), (qf40, .inl (cf40, 1500, .inl f40)), (qf41, .inl (cf41, 1500, .inl f41)), (qf42, .inl (cf42, 1500, .inl f42)), (qf44, .inl (cf44, 1500, .inl g44_239)), (qf43, .inl (cf43, 1500, .inl f43)), (qf6, .inl (cf6, 3002, .inl f6)), (qf2, .inl (cf2, 3000, .inl f2)), (h0, .inr (13, z_8)), (qf5, .inl (cf5, 3002, .inl f5))] H := hP
              replace hD : va_D A [(qf31, .inl (cf31, 800, .inl f31)), (qf32, .inl (cf32, 800, .inl f32)), (qf33, .inl (cf33, 800, .inl f33)), (qf25, .inl (cf25, 400, .inl f25)), (qf35, .inl (cf35, 800, .inl g35_239)), (qf34, .inl (cf34, 800, .inl f34)), (qf29, .inl (cf29, 800, .inl f29)), (qf30, .inl (cf30, 800, .inl f30)), (qf37, .inl (cf37, 800, .inl f37)), (qf36, .inl (cf36, 800, .inl f36)), (qf40, .inl (cf40, 1500, .inl f40)), (qf41, .inl (cf41, 1500, .inl f41)), (qf42, .inl (cf42, 1500, .inl f42)), (qf44, .inl (cf44, 1500, .inl g44_239)), (qf43, .inl (cf43, 1500, .inl f43)), (qf6, .inl (cf6, 3002, .inl f6)), (qf2, .inl (cf2, 3000, .inl f2)), (h0, .inr (13, z_8)), (qf5, .inl (cf5, 3002, .inl f5))] := hD
              replace hK : va_K (dC, dI) vwCl [(cf31, .int), (cf32, .int), (cf33, .boolean), (cf25, .int), (cf35, .int), (cf34, .int), (cf29, .int), (cf30, .int), (cf37, .int), (cf36, .int), (cf40, .int), (cf41, .int), (cf42, .boolean), (cf44, .int), (cf43, .int), (cf6, .int), (cf2, .int), (cf5, .int)] s := hK
              obtain ⟨hwa_8, hln_8, hre_8, hch_8_10, hch_8_9⟩ := hw
              have hfk_8_2 : z_8[2]? = some (.ref qf2) := (hre_8 2 (by decide) (by decide)).trans (hfk_7_2)
              have hfk_8_5 : z_8[5]? = some (.ref qf5) := (hre_8 5 (by decide) (by decide)).trans (hfk_7_5)
              have hfk_8_6 : z_8[6]? = some (.ref qf6) := (hre_8 6 (by decide) (by decide)).trans (hfk_7_6)
              have hfk_8_24 : z_8[24]? = some (.int v24) := (hre_8 24 (by decide) (by decide)).trans (hfk_7_24)
              have hfk_8_25 : z_8[25]? = some (.ref qf25) := (hre_8 25 (by decide) (by decide)).trans (hfk_7_25)
              have hfk_8_29 : z_8[29]? = some (.ref qf29) := (hre_8 29 (by decide) (by decide)).trans (hfk_7_29)
              have hfk_8_30 : z_8[30]? = some (.ref qf30) := (hre_8 30 (by decide) (by decide)).trans (hfk_7_30)
              have hfk_8_31 : z_8[31]? = some (.ref qf31) := (hre_8 31 (by decide) (by decide)).trans (hfk_7_31)
              have hfk_8_32 : z_8[32]? = some (.ref qf32) := (hre_8 32 (by decide) (by decide)).trans (hfk_7_32)
              have hfk_8_33 : z_8[33]? = some (.ref qf33) := (hre_8 33 (by decide) (by decide)).trans (hfk_7_33)
              have hfk_8_34 : z_8[34]? = some (.ref qf34) := (hre_8 34 (by decide) (by decide)).trans (hfk_7_34)
              have hfk_8_35 : z_8[35]? = some (.ref qf35) := (hre_8 35 (by decide) (by decide)).trans (hfk_7_35)
              have hfk_8_36 : z_8[36]? = some (.ref qf36) := (hre_8 36 (by decide) (by decide)).trans (hfk_7_36)
              have hfk_8_37 : z_8[37]? = some (.ref qf37) := (hre_8 37 (by decide) (by decide)).trans (hfk_7_37)
              have hfk_8_40 : z_8[40]? = some (.ref qf40) := (hre_8 40 (by decide) (by decide)).trans (hfk_7_40)
              have hfk_8_41 : z_8[41]? = some (.ref qf41) := (hre_8 41 (by decide) (by decide)).trans (hfk_7_41)
              have hfk_8_42 : z_8[42]? = some (.ref qf42) := (hre_8 42 (by decide) (by decide)).trans (hfk_7_42)
              have hfk_8_43 : z_8[43]? = some (.ref qf43) := (hre_8 43 (by decide) (by decide)).trans (hfk_7_43)
              have hfk_8_44 : z_8[44]? = some (.ref qf44) := (hre_8 44 (by decide) (by decide)).trans (hfk_7_44)
              have hrq_8 : ∀ j : Nat, j ≠ 10 → j ≠ 9 → z_8[j]? = zs[j]? := fun j g10 g9 => (hre_8 j g10 g9).trans (hrq_7 j g10 g9)
              refine lv_iinc (v := (l6_239 + 1)) (lv' := [(6, .int (l6_239 + 1)), (0, .ref h0), (1, .int l1_239), (4, .int l4_239), (5, .int l5_239)]) hx hb dX13_memberHead_279 hl (k := 0) rfl rfl (by decide) rfl (fun ls hl => ?_)
              refine lv_goto (tgt := 239) hx hb dX13_memberHead_282 (by decide) ?_
              exact ih_239 H locs ls z_8 l1_239 l4_239 l5_239 (l6_239 + 1) g35_239 g44_239 u8_0 u8_1 (hfk_8_2) (hfk_8_5) (hfk_8_6) (hch_8_9) (hch_8_10) (hfk_8_24) (hfk_8_25) (hfk_8_29) (hfk_8_30) (hfk_8_31) (hfk_8_32) (hfk_8_33) (hfk_8_34) (hfk_8_35) (hfk_8_36) (hfk_8_37) (hfk_8_40) (hfk_8_41) (hfk_8_42) (hfk_8_43) (hfk_8_44) hln_8 hrq_8 (lv_sub hl [0, 1, 2, 3, 4] rfl) hS (hD.sub (ws' := [(h0, .inr (13, z_8)), (qf31, .inl (cf31, 800, .inl f31)), (qf32, .inl (cf32, 800, .inl f32)), (qf33, .inl (cf33, 800, .inl f33)), (qf5, .inl (cf5, 3002, .inl f5)), (qf6, .inl (cf6, 3002, .inl f6)), (qf2, .inl (cf2, 3000, .inl f2)), (qf25, .inl (cf25, 400, .inl f25)), (qf35, .inl (cf35, 800, .inl g35_239)), (qf34, .inl (cf34, 800, .inl f34)), (qf29, .inl (cf29, 800, .inl f29)), (qf30, .inl (cf30, 800, .inl f30)), (qf37, .inl (cf37, 800, .inl f37)), (qf36, .inl (cf36, 800, .inl f36)), (qf40, .inl (cf40, 1500, .inl f40)), (qf41, .inl (cf41, 1500, .inl f41)), (qf42, .inl (cf42, 1500, .inl f42)), (qf44, .inl (cf44, 1500, .inl g44_239)), (qf43, .inl (cf43, 1500, .inl f43))]) [17, 0, 1, 2, 18, 15, 16, 3, 4, 5, 6, 7, 8, 9, 10, 11, 12, 13, 14] (by decide) rfl) (hP.sub (ws' := [(h0, .inr (13, z_8)), (qf31, .inl (cf31, 800, .inl f31)), (qf32, .inl (cf32, 800, .inl f32)), (qf33, .inl (cf33, 800, .inl f33)), (qf5, .inl (cf5, 3002, .inl f5)), (qf6, .inl (cf6, 3002, .inl f6)), (qf2, .inl (cf2, 3000, .inl f2)), (qf25, .inl (cf25, 400, .inl f25)), (qf35, .inl (cf35, 800, .inl g35_239)), (qf34, .inl (cf34, 800, .inl f34)), (qf29, .inl (cf29, 800, .inl f29)), (qf30, .inl (cf30, 800, .inl f30)), (qf37, .inl (cf37, 800, .inl f37)), (qf36, .inl (cf36, 800, .inl f36)), (qf40, .inl (cf40, 1500, .inl f40)), (qf41, .inl (cf41, 1500, .inl f41)), (qf42, .inl (cf42, 1500, .inl f42)), (qf44, .inl (cf44, 1500, .inl g44_239)), (qf43, .inl (cf43, 1500, .inl f43))]) [17, 0, 1, 2, 18, 15, 16, 3, 4, 5, 6, 7, 8, 9, 10, 11, 12, 13, 14] rfl) hsp
      intro hj_231
      refine lv_iload hx hb dX13_memberHead_157 (lv_at hl 0 rfl) ?_
      refine lv_aload_n hx hb dX13_memberHead_159 rfl (lv_at hl 1 rfl) ?_
      refine va_get (D := (dC, dI)) (ci := 13) (v := .ref qf37) (C := RX13) (T := TX13) (N := 155) hx hb hts uV_h9_X13 hown hK hP 0 rfl rfl 37 (by decide) (hts (.fieldLink RX13 95 "ClassMillModel" "memberMany" "[I") mw_h9_113) (fun _ h9 => h9) hfh_157_37 dX13_memberHead_160 ?_
      refine lv_iload_n hx hb dX13_memberHead_163 rfl (lv_at hl 2 rfl) ?_
      obtain ⟨hi_22, hsp⟩ := ox_in hsp
      refine va_iald hx hb hK hP 12 11 rfl rfl (i := l1_157) hi_22 dX13_memberHead_164 ?_
      refine lv_icmp_ge (tgt := 291) hx hb dX13_memberHead_165 (by decide) (fun c_23 => ?_) (fun c_23 => ?_)
      · rw [if_pos c_23] at hsp
        have hr0 := Option.some.inj hsp
        clear hsp
        obtain ⟨hq0, hr1⟩ := Prod.mk.inj hr0
        clear hr0
        obtain ⟨hq1, hr2⟩ := Prod.mk.inj hr1
        clear hr1
        obtain ⟨hq2, hr3⟩ := Prod.mk.inj hr2
        clear hr2
        subst hq0
        subst hq1
        subst hq2
        subst hr3
        have hP9 := hP.sub (ws' := [(h0, .inr (13, z157)), (qf31, .inl (cf31, 800, .inl f31)), (qf32, .inl (cf32, 800, .inl f32)), (qf33, .inl (cf33, 800, .inl f33)), (qf5, .inl (cf5, 3002, .inl f5)), (qf6, .inl (cf6, 3002, .inl f6)), (qf2, .inl (cf2, 3000, .inl f2)), (qf25, .inl (cf25, 400, .inl f25)), (qf35, .inl (cf35, 800, .inl g35_157)), (qf34, .inl (cf34, 800, .inl f34)), (qf29, .inl (cf29, 800, .inl f29)), (qf30, .inl (cf30, 800, .inl f30)), (qf37, .inl (cf37, 800, .inl f37)), (qf36, .inl (cf36, 800, .inl f36)), (qf40, .inl (cf40, 1500, .inl f40)), (qf41, .inl (cf41, 1500, .inl f41)), (qf42, .inl (cf42, 1500, .inl f42)), (qf44, .inl (cf44, 1500, .inl g44_157)), (qf43, .inl (cf43, 1500, .inl f43))]) [0, 1, 2, 3, 4, 5, 6, 7, 8, 9, 10, 11, 12, 13, 14, 15, 16, 17, 18] rfl
        have hD9 := hD.sub (ws' := [(h0, .inr (13, z157)), (qf31, .inl (cf31, 800, .inl f31)), (qf32, .inl (cf32, 800, .inl f32)), (qf33, .inl (cf33, 800, .inl f33)), (qf5, .inl (cf5, 3002, .inl f5)), (qf6, .inl (cf6, 3002, .inl f6)), (qf2, .inl (cf2, 3000, .inl f2)), (qf25, .inl (cf25, 400, .inl f25)), (qf35, .inl (cf35, 800, .inl g35_157)), (qf34, .inl (cf34, 800, .inl f34)), (qf29, .inl (cf29, 800, .inl f29)), (qf30, .inl (cf30, 800, .inl f30)), (qf37, .inl (cf37, 800, .inl f37)), (qf36, .inl (cf36, 800, .inl f36)), (qf40, .inl (cf40, 1500, .inl f40)), (qf41, .inl (cf41, 1500, .inl f41)), (qf42, .inl (cf42, 1500, .inl f42)), (qf44, .inl (cf44, 1500, .inl g44_157)), (qf43, .inl (cf43, 1500, .inl f43))]) [0, 1, 2, 3, 4, 5, 6, 7, 8, 9, 10, 11, 12, 13, 14, 15, 16, 17, 18] (by decide) rfl
        have hK9 := hK.sub (tys' := [(cf31, .int), (cf32, .int), (cf33, .boolean), (cf5, .int), (cf6, .int), (cf2, .int), (cf25, .int), (cf35, .int), (cf34, .int), (cf29, .int), (cf30, .int), (cf37, .int), (cf36, .int), (cf40, .int), (cf41, .int), (cf42, .boolean), (cf44, .int), (cf43, .int)]) [0, 1, 2, 3, 4, 5, 6, 7, 8, 9, 10, 11, 12, 13, 14, 15, 16, 17] rfl
        exact W.vret hx hb hr (fun t ht hW => ⟨⟨(z157), rfl, ⟨trivial, hlh_157, hrh_157, hfh_157_10, hfh_157_9⟩, by rw [ht]; exact hP9, va_K.moved hW.alike hK9, hD9⟩, hS.F ht⟩) hS.2.2 dX13_memberHead_291
      · rw [if_neg c_23] at hsp
        refine lv_aload_n hx hb dX13_memberHead_168 rfl (lv_at hl 1 rfl) ?_
        refine va_get (D := (dC, dI)) (ci := 13) (v := .ref qf36) (C := RX13) (T := TX13) (N := 155) hx hb hts uV_h9_X13 hown hK hP 0 rfl rfl 36 (by decide) (hts (.fieldLink RX13 92 "ClassMillModel" "memberFirst" "[I") mw_h9_111) (fun _ h9 => h9) hfh_157_36 dX13_memberHead_169 ?_
        refine lv_iload_n hx hb dX13_memberHead_172 rfl (lv_at hl 2 rfl) ?_
        obtain ⟨hi_24, hsp⟩ := ox_in hsp
        refine va_iald hx hb hK hP 13 12 rfl rfl (i := l1_157) hi_24 dX13_memberHead_173 ?_
        refine lv_iload hx hb dX13_memberHead_174 (lv_at hl 0 rfl) ?_
        refine lv_iadd hx hb dX13_memberHead_176 ?_
        refine lv_istore (lv' := [(5, .int ((f36 (l1_157 : Int32).toNatClampNeg) + l4_157)), (4, .int l4_157), (0, .ref h0), (1, .int l1_157)]) hx hb dX13_memberHead_177 hl (by decide) rfl (fun ls hl => ?_)
        refine lv_aload_n hx hb dX13_memberHead_179 rfl (lv_at hl 2 rfl) ?_
        refine va_get (D := (dC, dI)) (ci := 13) (v := .ref qf44) (C := RX13) (T := TX13) (N := 155) hx hb hts uV_h9_X13 hown hK hP 0 rfl rfl 44 (by decide) (hts (.fieldLink RX13 113 "ClassMillModel" "parameterType" "[I") mw_h9_114) (fun _ h9 => h9) hfh_157_44 dX13_memberHead_180 ?_
        refine lv_iload hx hb dX13_memberHead_183 (lv_at hl 0 rfl) ?_
        refine lv_aload_n hx hb dX13_memberHead_185 rfl (lv_at hl 2 rfl) ?_
        refine lv_aload_n hx hb dX13_memberHead_186 rfl (lv_at hl 2 rfl) ?_
        refine va_get (D := (dC, dI)) (ci := 13) (v := .ref qf40) (C := RX13) (T := TX13) (N := 155) hx hb hts uV_h9_X13 hown hK hP 0 rfl rfl 40 (by decide) (hts (.fieldLink RX13 101 "ClassMillModel" "parameterBase" "[I") mw_h9_115) (fun _ h9 => h9) hfh_157_40 dX13_memberHead_187 ?_
        refine lv_iload hx hb dX13_memberHead_190 (lv_at hl 0 rfl) ?_
        obtain ⟨hi_25, hsp⟩ := ox_in hsp
        refine va_iald hx hb hK hP 14 13 rfl rfl (i := ((f36 (l1_157 : Int32).toNatClampNeg) + l4_157)) hi_25 dX13_memberHead_192 ?_
        refine lv_aload_n hx hb dX13_memberHead_193 rfl (lv_at hl 2 rfl) ?_
        refine va_get (D := (dC, dI)) (ci := 13) (v := .ref qf41) (C := RX13) (T := TX13) (N := 155) hx hb hts uV_h9_X13 hown hK hP 0 rfl rfl 41 (by decide) (hts (.fieldLink RX13 104 "ClassMillModel" "parameterBaseToken" "[I") mw_h9_116) (fun _ h9 => h9) hfh_157_41 dX13_memberHead_194 ?_
        refine lv_iload hx hb dX13_memberHead_197 (lv_at hl 0 rfl) ?_
        obtain ⟨hi_26, hsp⟩ := ox_in hsp
        refine va_iald hx hb hK hP 15 14 rfl rfl (i := ((f36 (l1_157 : Int32).toNatClampNeg) + l4_157)) hi_26 dX13_memberHead_199 ?_
        refine lv_aload_n hx hb dX13_memberHead_200 rfl (lv_at hl 2 rfl) ?_
        refine va_get (D := (dC, dI)) (ci := 13) (v := .ref qf42) (C := RX13) (T := TX13) (N := 155) hx hb hts uV_h9_X13 hown hK hP 0 rfl rfl 42 (by decide) (hts (.fieldLink RX13 107 "ClassMillModel" "parameterRow" "[Z") mw_h9_117) (fun _ h9 => h9) hfh_157_42 dX13_memberHead_201 ?_
        refine lv_iload hx hb dX13_memberHead_204 (lv_at hl 0 rfl) ?_
        obtain ⟨hi_27, hsp⟩ := ox_in hsp
        refine va_zald hx hb hK hP 16 15 rfl rfl (i := ((f36 (l1_157 : Int32).toNatClampNeg) + l4_157)) hi_27 dX13_memberHead_206 ?_
        obtain ⟨⟨u5_0, u5_1, u5_2⟩, hu_5, hsp⟩ := ox_bind hsp
        try dsimp only at hsp
        have hPc := hP.sub (ws' := [(h0, .inr (13, z157)), (qf5, .inl (cf5, 3002, .inl f5)), (qf6, .inl (cf6, 3002, .inl f6)), (qf2, .inl (cf2, 3000, .inl f2)), (qf25, .inl (cf25, 400, .inl f25))]) [0, 4, 5, 6, 7] rfl
        have hDc := hD.sub (ws' := [(h0, .inr (13, z157)), (qf5, .inl (cf5, 3002, .inl f5)), (qf6, .inl (cf6, 3002, .inl f6)), (qf2, .inl (cf2, 3000, .inl f2)), (qf25, .inl (cf25, 400, .inl f25))]) [0, 4, 5, 6, 7] (by decide) rfl
        have hKc := hK.sub (tys' := [(cf5, .int), (cf6, .int), (cf2, .int), (cf25, .int)]) [3, 4, 5, 6] rfl
        have hFc := va_free (wc := [(h0, .inr (13, z157)), (qf5, .inl (cf5, 3002, .inl f5)), (qf6, .inl (cf6, 3002, .inl f6)), (qf2, .inl (cf2, 3000, .inl f2)), (qf25, .inl (cf25, 400, .inl f25))]) hD hS hA [0, 4, 5, 6, 7] rfl
        refine va_calli (va_runV (As := [.int (f40 (((f36 (l1_157 : Int32).toNatClampNeg) + l4_157) : Int32).toNatClampNeg), .int (f41 (((f36 (l1_157 : Int32).toNatClampNeg) + l4_157) : Int32).toNatClampNeg), .int (f42 (((f36 (l1_157 : Int32).toNatClampNeg) + l4_157) : Int32).toNatClampNeg)]) (rest := [.int ((f36 (l1_157 : Int32).toNatClampNeg) + l4_157), .ref qf44]) ⟨hx, hb, hml, hown, hts⟩ (vm_typeOf l dC dI H.size h0 z157 ((f40 (((f36 (l1_157 : Int32).toNatClampNeg) + l4_157) : Int32).toNatClampNeg)) ((f41 (((f36 (l1_157 : Int32).toNatClampNeg) + l4_157) : Int32).toNatClampNeg)) ((f42 (((f36 (l1_157 : Int32).toNatClampNeg) + l4_157) : Int32).toNatClampNeg)) qf2 qf5 qf6 x9_157 x10_157 v24 qf25 cf5 f5 cf6 f6 cf2 f2 cf25 f25 nS477 fS477 hS477 qS477 tS477 nf u5_0 u5_1 u5_2 hlh_157 hfh_157_2 hfh_157_5 hfh_157_6 hfh_157_9 hfh_157_10 hfh_157_24 hfh_157_25 hu_5) (cwV 3 hts gv_h9_20 rfl rfl rfl (by decide +kernel) ⟨Nat.le_of_ble_eq_true rfl, Nat.le_of_ble_eq_true rfl⟩) ⟨fun a U g mk q => by obtain ⟨q0, q1, qP, qK, qD, qhZWS477, qhZRS477⟩ := q; exact ⟨q0, q1, qP, va_K.moved (u := U) (U := U.calling g mk a) (Vm.Alike.refl U.vm) qK, qD, pz_W.moved (u := U) (U := U.calling g mk a) (Vm.Alike.refl U.vm) qhZWS477, vk_R.same rfl qhZRS477⟩, va_recv hKc hPc (ci := 13) (q0 := 0) rfl rfl, fun U hU hW => ⟨rfl, by rw [hU], by rw [hU]; exact hPc, va_K.moved hW.alike hKc, hDc.weaken (fun _ _ _ _ => trivial), by rw [hU]; exact ((pz_W.moved hW.alike hZWS477).kept hS.2.1).narrow hFc, vk_R.warm hW hZRS477⟩⟩ rfl rfl hl.1 rfl (lv_room (Nat.le_of_ble_eq_true rfl)) dX13_memberHead_207 ⟨Nat.le_of_ble_eq_true rfl, Nat.le_of_ble_eq_true rfl⟩) hS (fun q _ h => hFc q h) hFc ?_
        clear hS
        intro r_28 u t H1 locs ht hvm hw hB hz1 hk1 hS
        obtain ⟨z_5, rfl⟩ : ∃ z, z = u := ⟨_, rfl⟩
        obtain ⟨hP1, hK1, hD1⟩ := hB
        rw [ht] at hP1
        have hK1 := va_K.moved hvm.symm hK1
        try dsimp only at hw
        have hPD := va_join (wr := [(qf31, .inl (cf31, 800, .inl f31)), (qf32, .inl (cf32, 800, .inl f32)), (qf33, .inl (cf33, 800, .inl f33)), (qf35, .inl (cf35, 800, .inl g35_157)), (qf34, .inl (cf34, 800, .inl f34)), (qf29, .inl (cf29, 800, .inl f29)), (qf30, .inl (cf30, 800, .inl f30)), (qf37, .inl (cf37, 800, .inl f37)), (qf36, .inl (cf36, 800, .inl f36)), (qf40, .inl (cf40, 1500, .inl f40)), (qf41, .inl (cf41, 1500, .inl f41)), (qf42, .inl (cf42, 1500, .inl f42)), (qf44, .inl (cf44, 1500, .inl g44_157)), (qf43, .inl (cf43, 1500, .inl f43))]) (w1 := [(h0, .inr (13, z_5)), (qf5, .inl (cf5, 3002, .inl f5)), (qf6, .inl (cf6, 3002, .inl f6)), (qf2, .inl (cf2, 3000, .inl f2)), (qf25, .inl (cf25, 400, .inl f25))]) hP hD [0, 4, 5, 6, 7] [1, 2, 3, 8, 9, 10, 11, 12, 13, 14, 15, 16, 17, 18] rfl rfl (by decide) (by decide) hk1 hFc hP1 hD1
        clear hP hD
        obtain ⟨hP, hD⟩ := hPD
        replace hK := (hK.sub (tys' := [(cf31, .int), (cf32, .int), (cf33, .boolean), (cf35, .int), (cf34, .int), (cf29, .int), (cf30, .int), (cf37, .int), (cf36, .int), (cf40, .int), (cf41, .int), (cf42, .boolean), (cf44, .int), (cf43, .int)]) [0, 1, 2, 7, 8, 9, 10, 11, 12, 13, 14, 15, 16, 17] rfl).app hK1
        clear hPc hDc hKc hFc hP1 hK1 hD1 hz1 hk1 ht hvm
        generalize H1 = H at hP hS ⊢
        replace hP : va_P (dC, dI) vwCl [(qf31, .inl (cf31, 800, .inl f31)), (qf32, .inl (cf32, 800, .inl f32)), (qf33, .inl (cf33, 800, .inl f33)), (qf35, .inl (cf35, 800, .inl g35_157)), (qf34, .inl (cf34, 800, .inl f34)), (qf29, .inl (cf29, 800, .inl f29)), (qf30, .inl (cf30, 800, .inl f30)), (qf37, .inl (cf37, 800, .inl f37)), (qf36, .inl (cf36, 800, .inl f36)), (qf40, .inl (cf40, 1500, .inl f40)), (qf41, .inl (cf41, 1500, .inl f41)), (qf42, .inl (cf42, 1500, .inl f42)), (qf44, .inl (cf44, 1500, .inl g44_157)), (qf43, .inl (cf43, 1500, .inl f43)), (h0, .inr (13, z_5)), (qf5, .inl (cf5, 3002, .inl f5)), (qf6, .inl (cf6, 3002, .inl f6)), (qf2, .inl (cf2, 3000, .inl f2)), (qf25, .inl (cf25, 400, .inl f25))] H := hP
        replace hD : va_D A [(qf31, .inl (cf31, 800, .inl f31)), (qf32, .inl (cf32, 800, .inl f32)), (qf33, .inl (cf33, 800, .inl f33)), (qf35, .inl (cf35, 800, .inl g35_157)), (qf34, .inl (cf34, 800, .inl f34)), (qf29, .inl (cf29, 800, .inl f29)), (qf30, .inl (cf30, 800, .inl f30)), (qf37, .inl (cf37, 800, .inl f37)), (qf36, .inl (cf36, 800, .inl f36)), (qf40, .inl (cf40, 1500, .inl f40)), (qf41, .inl (cf41, 1500, .inl f41)), (qf42, .inl (cf42, 1500, .inl f42)), (qf44, .inl (cf44, 1500, .inl g44_157)), (qf43, .inl (cf43, 1500, .inl f43)), (h0, .inr (13, z_5)), (qf5, .inl (cf5, 3002, .inl f5)), (qf6, .inl (cf6, 3002, .inl f6)), (qf2, .inl (cf2, 3000, .inl f2)), (qf25, .inl (cf25, 400, .inl f25))] := hD
        replace hK : va_K (dC, dI) vwCl [(cf31, .int), (cf32, .int), (cf33, .boolean), (cf35, .int), (cf34, .int), (cf29, .int), (cf30, .int), (cf37, .int), (cf36, .int), (cf40, .int), (cf41, .int), (cf42, .boolean), (cf44, .int), (cf43, .int), (cf5, .int), (cf6, .int), (cf2, .int), (cf25, .int)] s := hK
        obtain ⟨hwa_5, hln_5, hre_5, hch_5_10, hch_5_9⟩ := hw
        have hfk_5_2 : z_5[2]? = some (.ref qf2) := (hre_5 2 (by decide) (by decide)).trans (hfh_157_2)
        have hfk_5_5 : z_5[5]? = some (.ref qf5) := (hre_5 5 (by decide) (by decide)).trans (hfh_157_5)
        have hfk_5_6 : z_5[6]? = some (.ref qf6) := (hre_5 6 (by decide) (by decide)).trans (hfh_157_6)
        have hfk_5_24 : z_5[24]? = some (.int v24) := (hre_5 24 (by decide) (by decide)).trans (hfh_157_24)
        have hfk_5_25 : z_5[25]? = some (.ref qf25) := (hre_5 25 (by decide) (by decide)).trans (hfh_157_25)
        have hfk_5_29 : z_5[29]? = some (.ref qf29) := (hre_5 29 (by decide) (by decide)).trans (hfh_157_29)
        have hfk_5_30 : z_5[30]? = some (.ref qf30) := (hre_5 30 (by decide) (by decide)).trans (hfh_157_30)
        have hfk_5_31 : z_5[31]? = some (.ref qf31) := (hre_5 31 (by decide) (by decide)).trans (hfh_157_31)
        have hfk_5_32 : z_5[32]? = some (.ref qf32) := (hre_5 32 (by decide) (by decide)).trans (hfh_157_32)
        have hfk_5_33 : z_5[33]? = some (.ref qf33) := (hre_5 33 (by decide) (by decide)).trans (hfh_157_33)
        have hfk_5_34 : z_5[34]? = some (.ref qf34) := (hre_5 34 (by decide) (by decide)).trans (hfh_157_34)
        have hfk_5_35 : z_5[35]? = some (.ref qf35) := (hre_5 35 (by decide) (by decide)).trans (hfh_157_35)
        have hfk_5_36 : z_5[36]? = some (.ref qf36) := (hre_5 36 (by decide) (by decide)).trans (hfh_157_36)
        have hfk_5_37 : z_5[37]? = some (.ref qf37) := (hre_5 37 (by decide) (by decide)).trans (hfh_157_37)
        have hfk_5_40 : z_5[40]? = some (.ref qf40) := (hre_5 40 (by decide) (by decide)).trans (hfh_157_40)
        have hfk_5_41 : z_5[41]? = some (.ref qf41) := (hre_5 41 (by decide) (by decide)).trans (hfh_157_41)
        have hfk_5_42 : z_5[42]? = some (.ref qf42) := (hre_5 42 (by decide) (by decide)).trans (hfh_157_42)
        have hfk_5_43 : z_5[43]? = some (.ref qf43) := (hre_5 43 (by decide) (by decide)).trans (hfh_157_43)
        have hfk_5_44 : z_5[44]? = some (.ref qf44) := (hre_5 44 (by decide) (by decide)).trans (hfh_157_44)
        have hrq_5 : ∀ j : Nat, j ≠ 10 → j ≠ 9 → z_5[j]? = zs[j]? := fun j g10 g9 => (hre_5 j g10 g9).trans (hrh_157 j g10 g9)
        obtain rfl := hwa_5
        obtain ⟨hi_29, hsp⟩ := ox_in hsp
        refine va_iast hx hb hK hP hD hS 12 12 rfl rfl (i := ((f36 (l1_157 : Int32).toNatClampNeg) + l4_157)) (x := u5_0) hi_29 dX13_memberHead_210 ?_
        clear hP hD hS
        intro H locs hP hD hS
        replace hP : va_P (dC, dI) vwCl [(qf31, .inl (cf31, 800, .inl f31)), (qf32, .inl (cf32, 800, .inl f32)), (qf33, .inl (cf33, 800, .inl f33)), (qf35, .inl (cf35, 800, .inl g35_157)), (qf34, .inl (cf34, 800, .inl f34)), (qf29, .inl (cf29, 800, .inl f29)), (qf30, .inl (cf30, 800, .inl f30)), (qf37, .inl (cf37, 800, .inl f37)), (qf36, .inl (cf36, 800, .inl f36)), (qf40, .inl (cf40, 1500, .inl f40)), (qf41, .inl (cf41, 1500, .inl f41)), (qf42, .inl (cf42, 1500, .inl f42)), (qf44, .inl (cf44, 1500, .inl (upd g44_157 (((f36 (l1_157 : Int32).toNatClampNeg) + l4_157) : Int32).toNatClampNeg u5_0))), (qf43, .inl (cf43, 1500, .inl f43)), (h0, .inr (13, z_5)), (qf5, .inl (cf5, 3002, .inl f5)), (qf6, .inl (cf6, 3002, .inl f6)), (qf2, .inl (cf2, 3000, .inl f2)), (qf25, .inl (cf25, 400, .inl f25))] H := hP
        replace hD : va_D A [(qf31, .inl (cf31, 800, .inl f31)), (qf32, .inl (cf32, 800, .inl f32)), (qf33, .inl (cf33, 800, .inl f33)), (qf35, .inl (cf35, 800, .inl g35_157)), (qf34, .inl (cf34, 800, .inl f34)), (qf29, .inl (cf29, 800, .inl f29)), (qf30, .inl (cf30, 800, .inl f30)), (qf37, .inl (cf37, 800, .inl f37)), (qf36, .inl (cf36, 800, .inl f36)), (qf40, .inl (cf40, 1500, .inl f40)), (qf41, .inl (cf41, 1500, .inl f41)), (qf42, .inl (cf42, 1500, .inl f42)), (qf44, .inl (cf44, 1500, .inl (upd g44_157 (((f36 (l1_157 : Int32).toNatClampNeg) + l4_157) : Int32).toNatClampNeg u5_0))), (qf43, .inl (cf43, 1500, .inl f43)), (h0, .inr (13, z_5)), (qf5, .inl (cf5, 3002, .inl f5)), (qf6, .inl (cf6, 3002, .inl f6)), (qf2, .inl (cf2, 3000, .inl f2)), (qf25, .inl (cf25, 400, .inl f25))] := hD
        refine lv_iload hx hb dX13_memberHead_211 (lv_at hl 1 rfl) ?_
        refine lv_bipush (v := 6) hx hb dX13_memberHead_213 (by decide) ?_
        refine lv_icmp_ne (tgt := 231) hx hb dX13_memberHead_215 (by decide) (fun c_30 => ?_) (fun c_30 => ?_)
        · rw [if_neg c_30] at hsp
          exact hj_231 (H, locs, ls, z_5, l1_157, l4_157, ((f36 (l1_157 : Int32).toNatClampNeg) + l4_157), g35_157, (upd g44_157 (((f36 (l1_157 : Int32).toNatClampNeg) + l4_157) : Int32).toNatClampNeg u5_0), u5_1, u5_2) ⟨lv_sub hl [2, 3, 1, 0] rfl, hS, hD.sub (ws' := [(h0, .inr (13, z_5)), (qf31, .inl (cf31, 800, .inl f31)), (qf32, .inl (cf32, 800, .inl f32)), (qf33, .inl (cf33, 800, .inl f33)), (qf5, .inl (cf5, 3002, .inl f5)), (qf6, .inl (cf6, 3002, .inl f6)), (qf2, .inl (cf2, 3000, .inl f2)), (qf25, .inl (cf25, 400, .inl f25)), (qf35, .inl (cf35, 800, .inl g35_157)), (qf34, .inl (cf34, 800, .inl f34)), (qf29, .inl (cf29, 800, .inl f29)), (qf30, .inl (cf30, 800, .inl f30)), (qf37, .inl (cf37, 800, .inl f37)), (qf36, .inl (cf36, 800, .inl f36)), (qf40, .inl (cf40, 1500, .inl f40)), (qf41, .inl (cf41, 1500, .inl f41)), (qf42, .inl (cf42, 1500, .inl f42)), (qf44, .inl (cf44, 1500, .inl (upd g44_157 (((f36 (l1_157 : Int32).toNatClampNeg) + l4_157) : Int32).toNatClampNeg u5_0))), (qf43, .inl (cf43, 1500, .inl f43))]) [14, 0, 1, 2, 15, 16, 17, 18, 3, 4, 5, 6, 7, 8, 9, 10, 11, 12, 13] (by decide) rfl, hP.sub (ws' := [(h0, .inr (13, z_5)), (qf31, .inl (cf31, 800, .inl f31)), (qf32, .inl (cf32, 800, .inl f32)), (qf33, .inl (cf33, 800, .inl f33)), (qf5, .inl (cf5, 3002, .inl f5)), (qf6, .inl (cf6, 3002, .inl f6)), (qf2, .inl (cf2, 3000, .inl f2)), (qf25, .inl (cf25, 400, .inl f25)), (qf35, .inl (cf35, 800, .inl g35_157)), (qf34, .inl (cf34, 800, .inl f34)), (qf29, .inl (cf29, 800, .inl f29)), (qf30, .inl (cf30, 800, .inl f30)), (qf37, .inl (cf37, 800, .inl f37)), (qf36, .inl (cf36, 800, .inl f36)), (qf40, .inl (cf40, 1500, .inl f40)), (qf41, .inl (cf41, 1500, .inl f41)), (qf42, .inl (cf42, 1500, .inl f42)), (qf44, .inl (cf44, 1500, .inl (upd g44_157 (((f36 (l1_157 : Int32).toNatClampNeg) + l4_157) : Int32).toNatClampNeg u5_0))), (qf43, .inl (cf43, 1500, .inl f43))]) [14, 0, 1, 2, 15, 16, 17, 18, 3, 4, 5, 6, 7, 8, 9, 10, 11, 12, 13] rfl, hfk_5_2, hfk_5_5, hfk_5_6, hch_5_9, hch_5_10, hfk_5_24, hfk_5_25, hfk_5_29, hfk_5_30, hfk_5_31, hfk_5_32, hfk_5_33, hfk_5_34, hfk_5_35, hfk_5_36, hfk_5_37, hfk_5_40, hfk_5_41, hfk_5_42, hfk_5_43, hfk_5_44, hln_5, hrq_5, hsp⟩
        · rw [if_pos c_30] at hsp
          refine lv_aload_n hx hb dX13_memberHead_218 rfl (lv_at hl 2 rfl) ?_
          refine lv_bipush (v := 11) hx hb dX13_memberHead_219 (by decide) ?_
          refine lv_aload_n hx hb dX13_memberHead_221 rfl (lv_at hl 2 rfl) ?_
          refine va_get (D := (dC, dI)) (ci := 13) (v := .ref qf43) (C := RX13) (T := TX13) (N := 155) hx hb hts uV_h9_X13 hown hK hP 14 rfl rfl 43 (by decide) (hts (.fieldLink RX13 110 "ClassMillModel" "parameterName" "[I") mw_h9_112) (fun _ h9 => h9) hfk_5_43 dX13_memberHead_222 ?_
          refine lv_iload hx hb dX13_memberHead_225 (lv_at hl 0 rfl) ?_
          obtain ⟨hi_31, hsp⟩ := ox_in hsp
          refine va_iald hx hb hK hP 13 13 rfl rfl (i := ((f36 (l1_157 : Int32).toNatClampNeg) + l4_157)) hi_31 dX13_memberHead_227 ?_
          obtain ⟨⟨u6_0, u6_1⟩, hu_6, hsp⟩ := ox_bind hsp
          try dsimp only at hsp
          have hPc := hP.sub (ws' := [(h0, .inr (13, z_5)), (qf5, .inl (cf5, 3002, .inl f5))]) [14, 15] rfl
          have hDc := hD.sub (ws' := [(h0, .inr (13, z_5)), (qf5, .inl (cf5, 3002, .inl f5))]) [14, 15] (by decide) rfl
          have hKc := hK.sub (tys' := [(cf5, .int)]) [14] rfl
          have hFc := va_free (wc := [(h0, .inr (13, z_5)), (qf5, .inl (cf5, 3002, .inl f5))]) hD hS hA [14, 15] rfl
          refine va_callv (va_runV (As := [.int 11, .int (f43 (((f36 (l1_157 : Int32).toNatClampNeg) + l4_157) : Int32).toNatClampNeg)]) (rest := []) ⟨hx, hb, hml, hown, hts⟩ (tm_wrong l dC dI H.size h0 z_5 11 ((f43 (((f36 (l1_157 : Int32).toNatClampNeg) + l4_157) : Int32).toNatClampNeg)) qf5 u5_2 u5_1 cf5 f5 nf u6_0 u6_1 hln_5 hfk_5_5 hch_5_9 hch_5_10 hu_6) (cwV 2 hts gv_h9_18 rfl rfl rfl (by decide +kernel) ⟨Nat.le_of_ble_eq_true rfl, Nat.le_of_ble_eq_true rfl⟩) ⟨fun a U g mk q => by obtain ⟨q0, q1, qP, qK, qD⟩ := q; exact ⟨q0, q1, qP, va_K.moved (u := U) (U := U.calling g mk a) (Vm.Alike.refl U.vm) qK, qD⟩, va_recv hKc hPc (ci := 13) (q0 := 0) rfl rfl, fun U hU hW => ⟨rfl, by rw [hU], by rw [hU]; exact hPc, va_K.moved hW.alike hKc, hDc.weaken (fun _ _ _ _ => trivial)⟩⟩ rfl rfl hl.1 rfl (lv_room (Nat.le_of_ble_eq_true rfl)) dX13_memberHead_228 ⟨Nat.le_of_ble_eq_true rfl, Nat.le_of_ble_eq_true rfl⟩) hS (fun q _ h => hFc q h) hFc ?_
          clear hS
          intro u t H1 locs ht hvm hw hB hz1 hk1 hS
          obtain ⟨z_6, rfl⟩ : ∃ z, z = u := ⟨_, rfl⟩
          obtain ⟨hP1, hK1, hD1⟩ := hB
          rw [ht] at hP1
          have hK1 := va_K.moved hvm.symm hK1
          try dsimp only at hw
          have hPD := va_join (wr := [(qf31, .inl (cf31, 800, .inl f31)), (qf32, .inl (cf32, 800, .inl f32)), (qf33, .inl (cf33, 800, .inl f33)), (qf35, .inl (cf35, 800, .inl g35_157)), (qf34, .inl (cf34, 800, .inl f34)), (qf29, .inl (cf29, 800, .inl f29)), (qf30, .inl (cf30, 800, .inl f30)), (qf37, .inl (cf37, 800, .inl f37)), (qf36, .inl (cf36, 800, .inl f36)), (qf40, .inl (cf40, 1500, .inl f40)), (qf41, .inl (cf41, 1500, .inl f41)), (qf42, .inl (cf42, 1500, .inl f42)), (qf44, .inl (cf44, 1500, .inl (upd g44_157 (((f36 (l1_157 : Int32).toNatClampNeg) + l4_157) : Int32).toNatClampNeg u5_0))), (qf43, .inl (cf43, 1500, .inl f43)), (qf6, .inl (cf6, 3002, .inl f6)), (qf2, .inl (cf2, 3000, .inl f2)), (qf25, .inl (cf25, 400, .inl f25))]) (w1 := [(h0, .inr (13, z_6)), (qf5, .inl (cf5, 3002, .inl f5))]) hP hD [14, 15] [0, 1, 2, 3, 4, 5, 6, 7, 8, 9, 10, 11, 12, 13, 16, 17, 18] rfl rfl (by decide) (by decide) hk1 hFc hP1 hD1
          clear hP hD
          obtain ⟨hP, hD⟩ := hPD
          replace hK := (hK.sub (tys' := [(cf31, .int), (cf32, .int), (cf33, .boolean), (cf35, .int), (cf34, .int), (cf29, .int), (cf30, .int), (cf37, .int), (cf36, .int), (cf40, .int), (cf41, .int), (cf42, .boolean), (cf44, .int), (cf43, .int), (cf6, .int), (cf2, .int), (cf25, .int)]) [0, 1, 2, 3, 4, 5, 6, 7, 8, 9, 10, 11, 12, 13, 15, 16, 17] rfl).app hK1
          clear hPc hDc hKc hFc hP1 hK1 hD1 hz1 hk1 ht hvm
          generalize H1 = H at hP hS ⊢
          replace hP : va_P (dC, dI) vwCl [(qf31, .inl (cf31, 800, .inl f31)), (qf32, .inl (cf32, 800, .inl f32)), (qf33, .inl (cf33, 800, .inl f33)), (qf35, .inl (cf35, 800, .inl g35_157)), (qf34, .inl (cf34, 800, .inl f34)), (qf29, .inl (cf29, 800, .inl f29)), (qf30, .inl (cf30, 800, .inl f30)), (qf37, .inl (cf37, 800, .inl f37)), (qf36, .inl (cf36, 800, .inl f36)), (qf40, .inl (cf40, 1500, .inl f40)), (qf41, .inl (cf41, 1500, .inl f41)), (qf42, .inl (cf42, 1500, .inl f42)), (qf44, .inl (cf44, 1500, .inl (upd g44_157 (((f36 (l1_157 : Int32).toNatClampNeg) + l4_157) : Int32).toNatClampNeg u5_0))), (qf43, .inl (cf43, 1500, .inl f43)), (qf6, .inl (cf6, 3002, .inl f6)), (qf2, .inl (cf2, 3000, .inl f2)), (qf25, .inl (cf25, 400, .inl f25)), (h0, .inr (13, z_6)), (qf5, .inl (cf5, 3002, .inl f5))] H := hP
          replace hD : va_D A [(qf31, .inl (cf31, 800, .inl f31)), (qf32, .inl (cf32, 800, .inl f32)), (qf33, .inl (cf33, 800, .inl f33)), (qf35, .inl (cf35, 800, .inl g35_157)), (qf34, .inl (cf34, 800, .inl f34)), (qf29, .inl (cf29, 800, .inl f29)), (qf30, .inl (cf30, 800, .inl f30)), (qf37, .inl (cf37, 800, .inl f37)), (qf36, .inl (cf36, 800, .inl f36)), (qf40, .inl (cf40, 1500, .inl f40)), (qf41, .inl (cf41, 1500, .inl f41)), (qf42, .inl (cf42, 1500, .inl f42)), (qf44, .inl (cf44, 1500, .inl (upd g44_157 (((f36 (l1_157 : Int32).toNatClampNeg) + l4_157) : Int32).toNatClampNeg u5_0))), (qf43, .inl (cf43, 1500, .inl f43)), (qf6, .inl (cf6, 3002, .inl f6)), (qf2, .inl (cf2, 3000, .inl f2)), (qf25, .inl (cf25, 400, .inl f25)), (h0, .inr (13, z_6)), (qf5, .inl (cf5, 3002, .inl f5))] := hD
          replace hK : va_K (dC, dI) vwCl [(cf31, .int), (cf32, .int), (cf33, .boolean), (cf35, .int), (cf34, .int), (cf29, .int), (cf30, .int), (cf37, .int), (cf36, .int), (cf40, .int), (cf41, .int), (cf42, .boolean), (cf44, .int), (cf43, .int), (cf6, .int), (cf2, .int), (cf25, .int), (cf5, .int)] s := hK
          obtain ⟨hwa_6, hln_6, hre_6, hch_6_10, hch_6_9⟩ := hw
          have hfk_6_2 : z_6[2]? = some (.ref qf2) := (hre_6 2 (by decide) (by decide)).trans (hfk_5_2)
          have hfk_6_5 : z_6[5]? = some (.ref qf5) := (hre_6 5 (by decide) (by decide)).trans (hfk_5_5)
          have hfk_6_6 : z_6[6]? = some (.ref qf6) := (hre_6 6 (by decide) (by decide)).trans (hfk_5_6)
          have hfk_6_24 : z_6[24]? = some (.int v24) := (hre_6 24 (by decide) (by decide)).trans (hfk_5_24)
          have hfk_6_25 : z_6[25]? = some (.ref qf25) := (hre_6 25 (by decide) (by decide)).trans (hfk_5_25)
          have hfk_6_29 : z_6[29]? = some (.ref qf29) := (hre_6 29 (by decide) (by decide)).trans (hfk_5_29)
          have hfk_6_30 : z_6[30]? = some (.ref qf30) := (hre_6 30 (by decide) (by decide)).trans (hfk_5_30)
          have hfk_6_31 : z_6[31]? = some (.ref qf31) := (hre_6 31 (by decide) (by decide)).trans (hfk_5_31)
          have hfk_6_32 : z_6[32]? = some (.ref qf32) := (hre_6 32 (by decide) (by decide)).trans (hfk_5_32)
          have hfk_6_33 : z_6[33]? = some (.ref qf33) := (hre_6 33 (by decide) (by decide)).trans (hfk_5_33)
          have hfk_6_34 : z_6[34]? = some (.ref qf34) := (hre_6 34 (by decide) (by decide)).trans (hfk_5_34)
          have hfk_6_35 : z_6[35]? = some (.ref qf35) := (hre_6 35 (by decide) (by decide)).trans (hfk_5_35)
          have hfk_6_36 : z_6[36]? = some (.ref qf36) := (hre_6 36 (by decide) (by decide)).trans (hfk_5_36)
          have hfk_6_37 : z_6[37]? = some (.ref qf37) := (hre_6 37 (by decide) (by decide)).trans (hfk_5_37)
          have hfk_6_40 : z_6[40]? = some (.ref qf40) := (hre_6 40 (by decide) (by decide)).trans (hfk_5_40)
          have hfk_6_41 : z_6[41]? = some (.ref qf41) := (hre_6 41 (by decide) (by decide)).trans (hfk_5_41)
          have hfk_6_42 : z_6[42]? = some (.ref qf42) := (hre_6 42 (by decide) (by decide)).trans (hfk_5_42)
          have hfk_6_43 : z_6[43]? = some (.ref qf43) := (hre_6 43 (by decide) (by decide)).trans (hfk_5_43)
          have hfk_6_44 : z_6[44]? = some (.ref qf44) := (hre_6 44 (by decide) (by decide)).trans (hfk_5_44)
          have hrq_6 : ∀ j : Nat, j ≠ 10 → j ≠ 9 → z_6[j]? = zs[j]? := fun j g10 g9 => (hre_6 j g10 g9).trans (hrq_5 j g10 g9)
          exact hj_231 (H, locs, ls, z_6, l1_157, l4_157, ((f36 (l1_157 : Int32).toNatClampNeg) + l4_157), g35_157, (upd g44_157 (((f36 (l1_157 : Int32).toNatClampNeg) + l4_157) : Int32).toNatClampNeg u5_0), u6_0, u6_1) ⟨lv_sub hl [2, 3, 1, 0] rfl, hS, hD.sub (ws' := [(h0, .inr (13, z_6)), (qf31, .inl (cf31, 800, .inl f31)), (qf32, .inl (cf32, 800, .inl f32)), (qf33, .inl (cf33, 800, .inl f33)), (qf5, .inl (cf5, 3002, .inl f5)), (qf6, .inl (cf6, 3002, .inl f6)), (qf2, .inl (cf2, 3000, .inl f2)), (qf25, .inl (cf25, 400, .inl f25)), (qf35, .inl (cf35, 800, .inl g35_157)), (qf34, .inl (cf34, 800, .inl f34)), (qf29, .inl (cf29, 800, .inl f29)), (qf30, .inl (cf30, 800, .inl f30)), (qf37, .inl (cf37, 800, .inl f37)), (qf36, .inl (cf36, 800, .inl f36)), (qf40, .inl (cf40, 1500, .inl f40)), (qf41, .inl (cf41, 1500, .inl f41)), (qf42, .inl (cf42, 1500, .inl f42)), (qf44, .inl (cf44, 1500, .inl (upd g44_157 (((f36 (l1_157 : Int32).toNatClampNeg) + l4_157) : Int32).toNatClampNeg u5_0))), (qf43, .inl (cf43, 1500, .inl f43))]) [17, 0, 1, 2, 18, 14, 15, 16, 3, 4, 5, 6, 7, 8, 9, 10, 11, 12, 13] (by decide) rfl, hP.sub (ws' := [(h0, .inr (13, z_6)), (qf31, .inl (cf31, 800, .inl f31)), (qf32, .inl (cf32, 800, .inl f32)), (qf33, .inl (cf33, 800, .inl f33)), (qf5, .inl (cf5, 3002, .inl f5)), (qf6, .inl (cf6, 3002, .inl f6)), (qf2, .inl (cf2, 3000, .inl f2)), (qf25, .inl (cf25, 400, .inl f25)), (qf35, .inl (cf35, 800, .inl g35_157)), (qf34, .inl (cf34, 800, .inl f34)), (qf29, .inl (cf29, 800, .inl f29)), (qf30, .inl (cf30, 800, .inl f30)), (qf37, .inl (cf37, 800, .inl f37)), (qf36, .inl (cf36, 800, .inl f36)), (qf40, .inl (cf40, 1500, .inl f40)), (qf41, .inl (cf41, 1500, .inl f41)), (qf42, .inl (cf42, 1500, .inl f42)), (qf44, .inl (cf44, 1500, .inl (upd g44_157 (((f36 (l1_157 : Int32).toNatClampNeg) + l4_157) : Int32).toNatClampNeg u5_0))), (qf43, .inl (cf43, 1500, .inl f43))]) [17, 0, 1, 2, 18, 14, 15, 16, 3, 4, 5, 6, 7, 8, 9, 10, 11, 12, 13] rfl, hfk_6_2, hfk_6_5, hfk_6_6, hch_6_9, hch_6_10, hfk_6_24, hfk_6_25, hfk_6_29, hfk_6_30, hfk_6_31, hfk_6_32, hfk_6_33, hfk_6_34, hfk_6_35, hfk_6_36, hfk_6_37, hfk_6_40, hfk_6_41, hfk_6_42, hfk_6_43, hfk_6_44, hln_6, hrq_6, hsp⟩
  intro hj_154
  refine jn_use (α := Heap × List Loc × Array Slot × List Value × Int32 × Int32 × (Nat → Int32) × (Nat → Int32) × Int32 × Int32) (fun x9 => x9.1) (fun x9 => x9.2.1) (fun x9 => F0 m 139 x9.2.2.1 []) (fun x9 => match x9 with | (H, locs, ls, z139, l1_139, l3_139, g35_139, g44_139, x10_139, x9_139) => lv_has ls 7 [(0, .ref h0), (1, .int l1_139), (3, .int l3_139)] ∧ va_S A s.heap H locs ∧ va_D A [(h0, .inr (13, z139)), (qf31, .inl (cf31, 800, .inl f31)), (qf32, .inl (cf32, 800, .inl f32)), (qf33, .inl (cf33, 800, .inl f33)), (qf5, .inl (cf5, 3002, .inl f5)), (qf6, .inl (cf6, 3002, .inl f6)), (qf2, .inl (cf2, 3000, .inl f2)), (qf25, .inl (cf25, 400, .inl f25)), (qf35, .inl (cf35, 800, .inl g35_139)), (qf34, .inl (cf34, 800, .inl f34)), (qf29, .inl (cf29, 800, .inl f29)), (qf30, .inl (cf30, 800, .inl f30)), (qf37, .inl (cf37, 800, .inl f37)), (qf36, .inl (cf36, 800, .inl f36)), (qf40, .inl (cf40, 1500, .inl f40)), (qf41, .inl (cf41, 1500, .inl f41)), (qf42, .inl (cf42, 1500, .inl f42)), (qf44, .inl (cf44, 1500, .inl g44_139)), (qf43, .inl (cf43, 1500, .inl f43))] ∧ va_P (dC, dI) vwCl [(h0, .inr (13, z139)), (qf31, .inl (cf31, 800, .inl f31)), (qf32, .inl (cf32, 800, .inl f32)), (qf33, .inl (cf33, 800, .inl f33)), (qf5, .inl (cf5, 3002, .inl f5)), (qf6, .inl (cf6, 3002, .inl f6)), (qf2, .inl (cf2, 3000, .inl f2)), (qf25, .inl (cf25, 400, .inl f25)), (qf35, .inl (cf35, 800, .inl g35_139)), (qf34, .inl (cf34, 800, .inl f34)), (qf29, .inl (cf29, 800, .inl f29)), (qf30, .inl (cf30, 800, .inl f30)), (qf37, .inl (cf37, 800, .inl f37)), (qf36, .inl (cf36, 800, .inl f36)), (qf40, .inl (cf40, 1500, .inl f40)), (qf41, .inl (cf41, 1500, .inl f41)), (qf42, .inl (cf42, 1500, .inl f42)), (qf44, .inl (cf44, 1500, .inl g44_139)), (qf43, .inl (cf43, 1500, .inl f43))] H ∧ z139[2]? = some (.ref qf2) ∧ z139[5]? = some (.ref qf5) ∧ z139[6]? = some (.ref qf6) ∧ z139[9]? = some (.int x9_139) ∧ z139[10]? = some (.int x10_139) ∧ z139[24]? = some (.int v24) ∧ z139[25]? = some (.ref qf25) ∧ z139[29]? = some (.ref qf29) ∧ z139[30]? = some (.ref qf30) ∧ z139[31]? = some (.ref qf31) ∧ z139[32]? = some (.ref qf32) ∧ z139[33]? = some (.ref qf33) ∧ z139[34]? = some (.ref qf34) ∧ z139[35]? = some (.ref qf35) ∧ z139[36]? = some (.ref qf36) ∧ z139[37]? = some (.ref qf37) ∧ z139[40]? = some (.ref qf40) ∧ z139[41]? = some (.ref qf41) ∧ z139[42]? = some (.ref qf42) ∧ z139[43]? = some (.ref qf43) ∧ z139[44]? = some (.ref qf44) ∧ z139.length = 155 ∧ (∀ j : Nat, j ≠ 10 → j ≠ 9 → z139[j]? = zs[j]?) ∧ jn_vm_memberHead_139 nf a1 v9 v10 v24 f31 f32 f33 f5 f6 f2 f25 f35 f34 f29 f30 f37 f36 f40 f41 f42 f44 f43 nS477 fS477 l1_139 l3_139 g35_139 g44_139 x10_139 x9_139 = some (o35, o44, w10, w9)) ?_ ?_
  · intro x9 hJ9
    obtain ⟨H, locs, ls, z139, l1_139, l3_139, g35_139, g44_139, x10_139, x9_139⟩ := x9
    obtain ⟨hl, hS, hD, hP, hfh_139_2, hfh_139_5, hfh_139_6, hfh_139_9, hfh_139_10, hfh_139_24, hfh_139_25, hfh_139_29, hfh_139_30, hfh_139_31, hfh_139_32, hfh_139_33, hfh_139_34, hfh_139_35, hfh_139_36, hfh_139_37, hfh_139_40, hfh_139_41, hfh_139_42, hfh_139_43, hfh_139_44, hlh_139, hrh_139, hsp⟩ := hJ9
    replace hl : lv_has ls 7 [(0, .ref h0), (1, .int l1_139), (3, .int l3_139)] := hl
    replace hS : va_S A s.heap H locs := hS
    replace hD : va_D A [(h0, .inr (13, z139)), (qf31, .inl (cf31, 800, .inl f31)), (qf32, .inl (cf32, 800, .inl f32)), (qf33, .inl (cf33, 800, .inl f33)), (qf5, .inl (cf5, 3002, .inl f5)), (qf6, .inl (cf6, 3002, .inl f6)), (qf2, .inl (cf2, 3000, .inl f2)), (qf25, .inl (cf25, 400, .inl f25)), (qf35, .inl (cf35, 800, .inl g35_139)), (qf34, .inl (cf34, 800, .inl f34)), (qf29, .inl (cf29, 800, .inl f29)), (qf30, .inl (cf30, 800, .inl f30)), (qf37, .inl (cf37, 800, .inl f37)), (qf36, .inl (cf36, 800, .inl f36)), (qf40, .inl (cf40, 1500, .inl f40)), (qf41, .inl (cf41, 1500, .inl f41)), (qf42, .inl (cf42, 1500, .inl f42)), (qf44, .inl (cf44, 1500, .inl g44_139)), (qf43, .inl (cf43, 1500, .inl f43))] := hD
    replace hP : va_P (dC, dI) vwCl [(h0, .inr (13, z139)), (qf31, .inl (cf31, 800, .inl f31)), (qf32, .inl (cf32, 800, .inl f32)), (qf33, .inl (cf33, 800, .inl f33)), (qf5, .inl (cf5, 3002, .inl f5)), (qf6, .inl (cf6, 3002, .inl f6)), (qf2, .inl (cf2, 3000, .inl f2)), (qf25, .inl (cf25, 400, .inl f25)), (qf35, .inl (cf35, 800, .inl g35_139)), (qf34, .inl (cf34, 800, .inl f34)), (qf29, .inl (cf29, 800, .inl f29)), (qf30, .inl (cf30, 800, .inl f30)), (qf37, .inl (cf37, 800, .inl f37)), (qf36, .inl (cf36, 800, .inl f36)), (qf40, .inl (cf40, 1500, .inl f40)), (qf41, .inl (cf41, 1500, .inl f41)), (qf42, .inl (cf42, 1500, .inl f42)), (qf44, .inl (cf44, 1500, .inl g44_139)), (qf43, .inl (cf43, 1500, .inl f43))] H := hP
    replace hsp : jn_vm_memberHead_139 nf a1 v9 v10 v24 f31 f32 f33 f5 f6 f2 f25 f35 f34 f29 f30 f37 f36 f40 f41 f42 f44 f43 nS477 fS477 l1_139 l3_139 g35_139 g44_139 x10_139 x9_139 = some (o35, o44, w10, w9) := hsp
    show W _ _ _ _ _ _ _ _ _ _ H locs _ _ _ (F0 m 139 ls [])
    unfold jn_vm_memberHead_139 at hsp
    try dsimp only at hsp
    refine lv_iload_n hx hb dX13_memberHead_139 rfl (lv_at hl 2 rfl) ?_
    refine lv_if_eq (tgt := 154) hx hb dX13_memberHead_140 (by decide) (fun c_20 => ?_) (fun c_20 => ?_)
    · rw [if_pos c_20] at hsp
      exact hj_154 (H, locs, ls, z139, l1_139, g35_139, g44_139, x10_139, x9_139) ⟨lv_sub hl [0, 1] rfl, hS, hD.sub (ws' := [(h0, .inr (13, z139)), (qf31, .inl (cf31, 800, .inl f31)), (qf32, .inl (cf32, 800, .inl f32)), (qf33, .inl (cf33, 800, .inl f33)), (qf5, .inl (cf5, 3002, .inl f5)), (qf6, .inl (cf6, 3002, .inl f6)), (qf2, .inl (cf2, 3000, .inl f2)), (qf25, .inl (cf25, 400, .inl f25)), (qf35, .inl (cf35, 800, .inl g35_139)), (qf34, .inl (cf34, 800, .inl f34)), (qf29, .inl (cf29, 800, .inl f29)), (qf30, .inl (cf30, 800, .inl f30)), (qf37, .inl (cf37, 800, .inl f37)), (qf36, .inl (cf36, 800, .inl f36)), (qf40, .inl (cf40, 1500, .inl f40)), (qf41, .inl (cf41, 1500, .inl f41)), (qf42, .inl (cf42, 1500, .inl f42)), (qf44, .inl (cf44, 1500, .inl g44_139)), (qf43, .inl (cf43, 1500, .inl f43))]) [0, 1, 2, 3, 4, 5, 6, 7, 8, 9, 10, 11, 12, 13, 14, 15, 16, 17, 18] (by decide) rfl, hP.sub (ws' := [(h0, .inr (13, z139)), (qf31, .inl (cf31, 800, .inl f31)), (qf32, .inl (cf32, 800, .inl f32)), (qf33, .inl (cf33, 800, .inl f33)), (qf5, .inl (cf5, 3002, .inl f5)), (qf6, .inl (cf6, 3002, .inl f6)), (qf2, .inl (cf2, 3000, .inl f2)), (qf25, .inl (cf25, 400, .inl f25)), (qf35, .inl (cf35, 800, .inl g35_139)), (qf34, .inl (cf34, 800, .inl f34)), (qf29, .inl (cf29, 800, .inl f29)), (qf30, .inl (cf30, 800, .inl f30)), (qf37, .inl (cf37, 800, .inl f37)), (qf36, .inl (cf36, 800, .inl f36)), (qf40, .inl (cf40, 1500, .inl f40)), (qf41, .inl (cf41, 1500, .inl f41)), (qf42, .inl (cf42, 1500, .inl f42)), (qf44, .inl (cf44, 1500, .inl g44_139)), (qf43, .inl (cf43, 1500, .inl f43))]) [0, 1, 2, 3, 4, 5, 6, 7, 8, 9, 10, 11, 12, 13, 14, 15, 16, 17, 18] rfl, hfh_139_2, hfh_139_5, hfh_139_6, hfh_139_9, hfh_139_10, hfh_139_24, hfh_139_25, hfh_139_29, hfh_139_30, hfh_139_31, hfh_139_32, hfh_139_33, hfh_139_34, hfh_139_35, hfh_139_36, hfh_139_37, hfh_139_40, hfh_139_41, hfh_139_42, hfh_139_43, hfh_139_44, hlh_139, hrh_139, hsp⟩
    · rw [if_neg c_20] at hsp
      refine lv_aload_n hx hb dX13_memberHead_143 rfl (lv_at hl 0 rfl) ?_
      refine lv_iconst (v := 4) hx hb dX13_memberHead_144 (by decide) ?_
      refine lv_aload_n hx hb dX13_memberHead_145 rfl (lv_at hl 0 rfl) ?_
      refine va_get (D := (dC, dI)) (ci := 13) (v := .ref qf34) (C := RX13) (T := TX13) (N := 155) hx hb hts uV_h9_X13 hown hK hP 0 rfl rfl 34 (by decide) (hts (.fieldLink RX13 86 "ClassMillModel" "memberName" "[I") mw_h9_118) (fun _ h9 => h9) hfh_139_34 dX13_memberHead_146 ?_
      refine lv_iload_n hx hb dX13_memberHead_149 rfl (lv_at hl 1 rfl) ?_
      obtain ⟨hi_21, hsp⟩ := ox_in hsp
      refine va_iald hx hb hK hP 9 8 rfl rfl (i := l1_139) hi_21 dX13_memberHead_150 ?_
      obtain ⟨⟨u4_0, u4_1⟩, hu_4, hsp⟩ := ox_bind hsp
      try dsimp only at hsp
      have hPc := hP.sub (ws' := [(h0, .inr (13, z139)), (qf5, .inl (cf5, 3002, .inl f5))]) [0, 4] rfl
      have hDc := hD.sub (ws' := [(h0, .inr (13, z139)), (qf5, .inl (cf5, 3002, .inl f5))]) [0, 4] (by decide) rfl
      have hKc := hK.sub (tys' := [(cf5, .int)]) [3] rfl
      have hFc := va_free (wc := [(h0, .inr (13, z139)), (qf5, .inl (cf5, 3002, .inl f5))]) hD hS hA [0, 4] rfl
      refine va_callv (va_runV (As := [.int 4, .int (f34 (l1_139 : Int32).toNatClampNeg)]) (rest := []) ⟨hx, hb, hml, hown, hts⟩ (tm_wrong l dC dI H.size h0 z139 4 ((f34 (l1_139 : Int32).toNatClampNeg)) qf5 x9_139 x10_139 cf5 f5 nf u4_0 u4_1 hlh_139 hfh_139_5 hfh_139_9 hfh_139_10 hu_4) (cwV 2 hts gv_h9_18 rfl rfl rfl (by decide +kernel) ⟨Nat.le_of_ble_eq_true rfl, Nat.le_of_ble_eq_true rfl⟩) ⟨fun a U g mk q => by obtain ⟨q0, q1, qP, qK, qD⟩ := q; exact ⟨q0, q1, qP, va_K.moved (u := U) (U := U.calling g mk a) (Vm.Alike.refl U.vm) qK, qD⟩, va_recv hKc hPc (ci := 13) (q0 := 0) rfl rfl, fun U hU hW => ⟨rfl, by rw [hU], by rw [hU]; exact hPc, va_K.moved hW.alike hKc, hDc.weaken (fun _ _ _ _ => trivial)⟩⟩ rfl rfl hl.1 rfl (lv_room (Nat.le_of_ble_eq_true rfl)) dX13_memberHead_151 ⟨Nat.le_of_ble_eq_true rfl, Nat.le_of_ble_eq_true rfl⟩) hS (fun q _ h => hFc q h) hFc ?_
      clear hS
      intro u t H1 locs ht hvm hw hB hz1 hk1 hS
      obtain ⟨z_4, rfl⟩ : ∃ z, z = u := ⟨_, rfl⟩
      obtain ⟨hP1, hK1, hD1⟩ := hB
      rw [ht] at hP1
      have hK1 := va_K.moved hvm.symm hK1
      try dsimp only at hw
      have hPD := va_join (wr := [(qf31, .inl (cf31, 800, .inl f31)), (qf32, .inl (cf32, 800, .inl f32)), (qf33, .inl (cf33, 800, .inl f33)), (qf6, .inl (cf6, 3002, .inl f6)), (qf2, .inl (cf2, 3000, .inl f2)), (qf25, .inl (cf25, 400, .inl f25)), (qf35, .inl (cf35, 800, .inl g35_139)), (qf34, .inl (cf34, 800, .inl f34)), (qf29, .inl (cf29, 800, .inl f29)), (qf30, .inl (cf30, 800, .inl f30)), (qf37, .inl (cf37, 800, .inl f37)), (qf36, .inl (cf36, 800, .inl f36)), (qf40, .inl (cf40, 1500, .inl f40)), (qf41, .inl (cf41, 1500, .inl f41)), (qf42, .inl (cf42, 1500, .inl f42)), (qf44, .inl (cf44, 1500, .inl g44_139)), (qf43, .inl (cf43, 1500, .inl f43))]) (w1 := [(h0, .inr (13, z_4)), (qf5, .inl (cf5, 3002, .inl f5))]) hP hD [0, 4] [1, 2, 3, 5, 6, 7, 8, 9, 10, 11, 12, 13, 14, 15, 16, 17, 18] rfl rfl (by decide) (by decide) hk1 hFc hP1 hD1
      clear hP hD
      obtain ⟨hP, hD⟩ := hPD
      replace hK := (hK.sub (tys' := [(cf31, .int), (cf32, .int), (cf33, .boolean), (cf6, .int), (cf2, .int), (cf25, .int), (cf35, .int), (cf34, .int), (cf29, .int), (cf30, .int), (cf37, .int), (cf36, .int), (cf40, .int), (cf41, .int), (cf42, .boolean), (cf44, .int), (cf43, .int)]) [0, 1, 2, 4, 5, 6, 7, 8, 9, 10, 11, 12, 13, 14, 15, 16, 17] rfl).app hK1
      clear hPc hDc hKc hFc hP1 hK1 hD1 hz1 hk1 ht hvm
      generalize H1 = H at hP hS ⊢
      replace hP : va_P (dC, dI) vwCl [(qf31, .inl (cf31, 800, .inl f31)), (qf32, .inl (cf32, 800, .inl f32)), (qf33, .inl (cf33, 800, .inl f33)), (qf6, .inl (cf6, 3002, .inl f6)), (qf2, .inl (cf2, 3000, .inl f2)), (qf25, .inl (cf25, 400, .inl f25)), (qf35, .inl (cf35, 800, .inl g35_139)), (qf34, .inl (cf34, 800, .inl f34)), (qf29, .inl (cf29, 800, .inl f29)), (qf30, .inl (cf30, 800, .inl f30)), (qf37, .inl (cf37, 800, .inl f37)), (qf36, .inl (cf36, 800, .inl f36)), (qf40, .inl (cf40, 1500, .inl f40)), (qf41, .inl (cf41, 1500, .inl f41)), (qf42, .inl (cf42, 1500, .inl f42)), (qf44, .inl (cf44, 1500, .inl g44_139)), (qf43, .inl (cf43, 1500, .inl f43)), (h0, .inr (13, z_4)), (qf5, .inl (cf5, 3002, .inl f5))] H := hP
      replace hD : va_D A [(qf31, .inl (cf31, 800, .inl f31)), (qf32, .inl (cf32, 800, .inl f32)), (qf33, .inl (cf33, 800, .inl f33)), (qf6, .inl (cf6, 3002, .inl f6)), (qf2, .inl (cf2, 3000, .inl f2)), (qf25, .inl (cf25, 400, .inl f25)), (qf35, .inl (cf35, 800, .inl g35_139)), (qf34, .inl (cf34, 800, .inl f34)), (qf29, .inl (cf29, 800, .inl f29)), (qf30, .inl (cf30, 800, .inl f30)), (qf37, .inl (cf37, 800, .inl f37)), (qf36, .inl (cf36, 800, .inl f36)), (qf40, .inl (cf40, 1500, .inl f40)), (qf41, .inl (cf41, 1500, .inl f41)), (qf42, .inl (cf42, 1500, .inl f42)), (qf44, .inl (cf44, 1500, .inl g44_139)), (qf43, .inl (cf43, 1500, .inl f43)), (h0, .inr (13, z_4)), (qf5, .inl (cf5, 3002, .inl f5))] := hD
      replace hK : va_K (dC, dI) vwCl [(cf31, .int), (cf32, .int), (cf33, .boolean), (cf6, .int), (cf2, .int), (cf25, .int), (cf35, .int), (cf34, .int), (cf29, .int), (cf30, .int), (cf37, .int), (cf36, .int), (cf40, .int), (cf41, .int), (cf42, .boolean), (cf44, .int), (cf43, .int), (cf5, .int)] s := hK
      obtain ⟨hwa_4, hln_4, hre_4, hch_4_10, hch_4_9⟩ := hw
      have hfk_4_2 : z_4[2]? = some (.ref qf2) := (hre_4 2 (by decide) (by decide)).trans (hfh_139_2)
      have hfk_4_5 : z_4[5]? = some (.ref qf5) := (hre_4 5 (by decide) (by decide)).trans (hfh_139_5)
      have hfk_4_6 : z_4[6]? = some (.ref qf6) := (hre_4 6 (by decide) (by decide)).trans (hfh_139_6)
      have hfk_4_24 : z_4[24]? = some (.int v24) := (hre_4 24 (by decide) (by decide)).trans (hfh_139_24)
      have hfk_4_25 : z_4[25]? = some (.ref qf25) := (hre_4 25 (by decide) (by decide)).trans (hfh_139_25)
      have hfk_4_29 : z_4[29]? = some (.ref qf29) := (hre_4 29 (by decide) (by decide)).trans (hfh_139_29)
      have hfk_4_30 : z_4[30]? = some (.ref qf30) := (hre_4 30 (by decide) (by decide)).trans (hfh_139_30)
      have hfk_4_31 : z_4[31]? = some (.ref qf31) := (hre_4 31 (by decide) (by decide)).trans (hfh_139_31)
      have hfk_4_32 : z_4[32]? = some (.ref qf32) := (hre_4 32 (by decide) (by decide)).trans (hfh_139_32)
      have hfk_4_33 : z_4[33]? = some (.ref qf33) := (hre_4 33 (by decide) (by decide)).trans (hfh_139_33)
      have hfk_4_34 : z_4[34]? = some (.ref qf34) := (hre_4 34 (by decide) (by decide)).trans (hfh_139_34)
      have hfk_4_35 : z_4[35]? = some (.ref qf35) := (hre_4 35 (by decide) (by decide)).trans (hfh_139_35)
      have hfk_4_36 : z_4[36]? = some (.ref qf36) := (hre_4 36 (by decide) (by decide)).trans (hfh_139_36)
      have hfk_4_37 : z_4[37]? = some (.ref qf37) := (hre_4 37 (by decide) (by decide)).trans (hfh_139_37)
      have hfk_4_40 : z_4[40]? = some (.ref qf40) := (hre_4 40 (by decide) (by decide)).trans (hfh_139_40)
      have hfk_4_41 : z_4[41]? = some (.ref qf41) := (hre_4 41 (by decide) (by decide)).trans (hfh_139_41)
      have hfk_4_42 : z_4[42]? = some (.ref qf42) := (hre_4 42 (by decide) (by decide)).trans (hfh_139_42)
      have hfk_4_43 : z_4[43]? = some (.ref qf43) := (hre_4 43 (by decide) (by decide)).trans (hfh_139_43)
      have hfk_4_44 : z_4[44]? = some (.ref qf44) := (hre_4 44 (by decide) (by decide)).trans (hfh_139_44)
      have hrq_4 : ∀ j : Nat, j ≠ 10 → j ≠ 9 → z_4[j]? = zs[j]? := fun j g10 g9 => (hre_4 j g10 g9).trans (hrh_139 j g10 g9)
      exact hj_154 (H, locs, ls, z_4, l1_139, g35_139, g44_139, u4_0, u4_1) ⟨lv_sub hl [0, 1] rfl, hS, hD.sub (ws' := [(h0, .inr (13, z_4)), (qf31, .inl (cf31, 800, .inl f31)), (qf32, .inl (cf32, 800, .inl f32)), (qf33, .inl (cf33, 800, .inl f33)), (qf5, .inl (cf5, 3002, .inl f5)), (qf6, .inl (cf6, 3002, .inl f6)), (qf2, .inl (cf2, 3000, .inl f2)), (qf25, .inl (cf25, 400, .inl f25)), (qf35, .inl (cf35, 800, .inl g35_139)), (qf34, .inl (cf34, 800, .inl f34)), (qf29, .inl (cf29, 800, .inl f29)), (qf30, .inl (cf30, 800, .inl f30)), (qf37, .inl (cf37, 800, .inl f37)), (qf36, .inl (cf36, 800, .inl f36)), (qf40, .inl (cf40, 1500, .inl f40)), (qf41, .inl (cf41, 1500, .inl f41)), (qf42, .inl (cf42, 1500, .inl f42)), (qf44, .inl (cf44, 1500, .inl g44_139)), (qf43, .inl (cf43, 1500, .inl f43))]) [17, 0, 1, 2, 18, 3, 4, 5, 6, 7, 8, 9, 10, 11, 12, 13, 14, 15, 16] (by decide) rfl, hP.sub (ws' := [(h0, .inr (13, z_4)), (qf31, .inl (cf31, 800, .inl f31)), (qf32, .inl (cf32, 800, .inl f32)), (qf33, .inl (cf33, 800, .inl f33)), (qf5, .inl (cf5, 3002, .inl f5)), (qf6, .inl (cf6, 3002, .inl f6)), (qf2, .inl (cf2, 3000, .inl f2)), (qf25, .inl (cf25, 400, .inl f25)), (qf35, .inl (cf35, 800, .inl g35_139)), (qf34, .inl (cf34, 800, .inl f34)), (qf29, .inl (cf29, 800, .inl f29)), (qf30, .inl (cf30, 800, .inl f30)), (qf37, .inl (cf37, 800, .inl f37)), (qf36, .inl (cf36, 800, .inl f36)), (qf40, .inl (cf40, 1500, .inl f40)), (qf41, .inl (cf41, 1500, .inl f41)), (qf42, .inl (cf42, 1500, .inl f42)), (qf44, .inl (cf44, 1500, .inl g44_139)), (qf43, .inl (cf43, 1500, .inl f43))]) [17, 0, 1, 2, 18, 3, 4, 5, 6, 7, 8, 9, 10, 11, 12, 13, 14, 15, 16] rfl, hfk_4_2, hfk_4_5, hfk_4_6, hch_4_9, hch_4_10, hfk_4_24, hfk_4_25, hfk_4_29, hfk_4_30, hfk_4_31, hfk_4_32, hfk_4_33, hfk_4_34, hfk_4_35, hfk_4_36, hfk_4_37, hfk_4_40, hfk_4_41, hfk_4_42, hfk_4_43, hfk_4_44, hln_4, hrq_4, hsp⟩
  intro hj_139
  refine lv_aload_n hx hb dX13_memberHead_0 rfl (lv_at hl 0 rfl) ?_
  refine va_get (D := (dC, dI)) (ci := 13) (v := .ref qf35) (C := RX13) (T := TX13) (N := 155) hx hb hts uV_h9_X13 hown hK hP 0 rfl rfl 35 (by decide) (hts (.fieldLink RX13 89 "ClassMillModel" "memberType" "[I") mw_h9_119) (fun _ h9 => h9) hf35 dX13_memberHead_1 ?_
  refine lv_iload_n hx hb dX13_memberHead_4 rfl (lv_at hl 1 rfl) ?_
  refine lv_aload_n hx hb dX13_memberHead_5 rfl (lv_at hl 0 rfl) ?_
  refine lv_aload_n hx hb dX13_memberHead_6 rfl (lv_at hl 0 rfl) ?_
  refine va_get (D := (dC, dI)) (ci := 13) (v := .ref qf31) (C := RX13) (T := TX13) (N := 155) hx hb hts uV_h9_X13 hown hK hP 0 rfl rfl 31 (by decide) (hts (.fieldLink RX13 77 "ClassMillModel" "memberBase" "[I") mw_h9_120) (fun _ h9 => h9) hf31 dX13_memberHead_7 ?_
  refine lv_iload_n hx hb dX13_memberHead_10 rfl (lv_at hl 1 rfl) ?_
  obtain ⟨hi_1, hsp⟩ := ox_in hsp
  refine va_iald hx hb hK hP 1 0 rfl rfl (i := a1) hi_1 dX13_memberHead_11 ?_
  refine lv_aload_n hx hb dX13_memberHead_12 rfl (lv_at hl 0 rfl) ?_
  refine va_get (D := (dC, dI)) (ci := 13) (v := .ref qf32) (C := RX13) (T := TX13) (N := 155) hx hb hts uV_h9_X13 hown hK hP 0 rfl rfl 32 (by decide) (hts (.fieldLink RX13 80 "ClassMillModel" "memberBaseToken" "[I") mw_h9_121) (fun _ h9 => h9) hf32 dX13_memberHead_13 ?_
  refine lv_iload_n hx hb dX13_memberHead_16 rfl (lv_at hl 1 rfl) ?_
  obtain ⟨hi_2, hsp⟩ := ox_in hsp
  refine va_iald hx hb hK hP 2 1 rfl rfl (i := a1) hi_2 dX13_memberHead_17 ?_
  refine lv_aload_n hx hb dX13_memberHead_18 rfl (lv_at hl 0 rfl) ?_
  refine va_get (D := (dC, dI)) (ci := 13) (v := .ref qf33) (C := RX13) (T := TX13) (N := 155) hx hb hts uV_h9_X13 hown hK hP 0 rfl rfl 33 (by decide) (hts (.fieldLink RX13 83 "ClassMillModel" "memberRow" "[Z") mw_h9_122) (fun _ h9 => h9) hf33 dX13_memberHead_19 ?_
  refine lv_iload_n hx hb dX13_memberHead_22 rfl (lv_at hl 1 rfl) ?_
  obtain ⟨hi_3, hsp⟩ := ox_in hsp
  refine va_zald hx hb hK hP 3 2 rfl rfl (i := a1) hi_3 dX13_memberHead_23 ?_
  obtain ⟨⟨u1_0, u1_1, u1_2⟩, hu_1, hsp⟩ := ox_bind hsp
  try dsimp only at hsp
  have hPc := hP.sub (ws' := [(h0, .inr (13, zs)), (qf5, .inl (cf5, 3002, .inl f5)), (qf6, .inl (cf6, 3002, .inl f6)), (qf2, .inl (cf2, 3000, .inl f2)), (qf25, .inl (cf25, 400, .inl f25))]) [0, 4, 5, 6, 7] rfl
  have hDc := hD.sub (ws' := [(h0, .inr (13, zs)), (qf5, .inl (cf5, 3002, .inl f5)), (qf6, .inl (cf6, 3002, .inl f6)), (qf2, .inl (cf2, 3000, .inl f2)), (qf25, .inl (cf25, 400, .inl f25))]) [0, 4, 5, 6, 7] (by decide) rfl
  have hKc := hK.sub (tys' := [(cf5, .int), (cf6, .int), (cf2, .int), (cf25, .int)]) [3, 4, 5, 6] rfl
  have hFc := va_free (wc := [(h0, .inr (13, zs)), (qf5, .inl (cf5, 3002, .inl f5)), (qf6, .inl (cf6, 3002, .inl f6)), (qf2, .inl (cf2, 3000, .inl f2)), (qf25, .inl (cf25, 400, .inl f25))]) hD hS hA [0, 4, 5, 6, 7] rfl
  refine va_calli (va_runV (As := [.int (f31 (a1 : Int32).toNatClampNeg), .int (f32 (a1 : Int32).toNatClampNeg), .int (f33 (a1 : Int32).toNatClampNeg)]) (rest := [.int a1, .ref qf35]) ⟨hx, hb, hml, hown, hts⟩ (vm_typeOf l dC dI H.size h0 zs ((f31 (a1 : Int32).toNatClampNeg)) ((f32 (a1 : Int32).toNatClampNeg)) ((f33 (a1 : Int32).toNatClampNeg)) qf2 qf5 qf6 v9 v10 v24 qf25 cf5 f5 cf6 f6 cf2 f2 cf25 f25 nS477 fS477 hS477 qS477 tS477 nf u1_0 u1_1 u1_2 hlen hf2 hf5 hf6 hf9 hf10 hf24 hf25 hu_1) (cwV 3 hts gv_h9_20 rfl rfl rfl (by decide +kernel) ⟨Nat.le_of_ble_eq_true rfl, Nat.le_of_ble_eq_true rfl⟩) ⟨fun a U g mk q => by obtain ⟨q0, q1, qP, qK, qD, qhZWS477, qhZRS477⟩ := q; exact ⟨q0, q1, qP, va_K.moved (u := U) (U := U.calling g mk a) (Vm.Alike.refl U.vm) qK, qD, pz_W.moved (u := U) (U := U.calling g mk a) (Vm.Alike.refl U.vm) qhZWS477, vk_R.same rfl qhZRS477⟩, va_recv hKc hPc (ci := 13) (q0 := 0) rfl rfl, fun U hU hW => ⟨rfl, by rw [hU], by rw [hU]; exact hPc, va_K.moved hW.alike hKc, hDc.weaken (fun _ _ _ _ => trivial), by rw [hU]; exact ((pz_W.moved hW.alike hZWS477).kept hS.2.1).narrow hFc, vk_R.warm hW hZRS477⟩⟩ rfl rfl hl.1 rfl (lv_room (Nat.le_of_ble_eq_true rfl)) dX13_memberHead_24 ⟨Nat.le_of_ble_eq_true rfl, Nat.le_of_ble_eq_true rfl⟩) hS (fun q _ h => hFc q h) hFc ?_
  clear hS
  intro r_4 u t H1 locs ht hvm hw hB hz1 hk1 hS
  obtain ⟨z_1, rfl⟩ : ∃ z, z = u := ⟨_, rfl⟩
  obtain ⟨hP1, hK1, hD1⟩ := hB
  rw [ht] at hP1
  have hK1 := va_K.moved hvm.symm hK1
  try dsimp only at hw
  have hPD := va_join (wr := [(qf31, .inl (cf31, 800, .inl f31)), (qf32, .inl (cf32, 800, .inl f32)), (qf33, .inl (cf33, 800, .inl f33)), (qf35, .inl (cf35, 800, .inl f35)), (qf34, .inl (cf34, 800, .inl f34)), (qf29, .inl (cf29, 800, .inl f29)), (qf30, .inl (cf30, 800, .inl f30)), (qf37, .inl (cf37, 800, .inl f37)), (qf36, .inl (cf36, 800, .inl f36)), (qf40, .inl (cf40, 1500, .inl f40)), (qf41, .inl (cf41, 1500, .inl f41)), (qf42, .inl (cf42, 1500, .inl f42)), (qf44, .inl (cf44, 1500, .inl f44)), (qf43, .inl (cf43, 1500, .inl f43))]) (w1 := [(h0, .inr (13, z_1)), (qf5, .inl (cf5, 3002, .inl f5)), (qf6, .inl (cf6, 3002, .inl f6)), (qf2, .inl (cf2, 3000, .inl f2)), (qf25, .inl (cf25, 400, .inl f25))]) hP hD [0, 4, 5, 6, 7] [1, 2, 3, 8, 9, 10, 11, 12, 13, 14, 15, 16, 17, 18] rfl rfl (by decide) (by decide) hk1 hFc hP1 hD1
  clear hP hD
  obtain ⟨hP, hD⟩ := hPD
  replace hK := (hK.sub (tys' := [(cf31, .int), (cf32, .int), (cf33, .boolean), (cf35, .int), (cf34, .int), (cf29, .int), (cf30, .int), (cf37, .int), (cf36, .int), (cf40, .int), (cf41, .int), (cf42, .boolean), (cf44, .int), (cf43, .int)]) [0, 1, 2, 7, 8, 9, 10, 11, 12, 13, 14, 15, 16, 17] rfl).app hK1
  clear hPc hDc hKc hFc hP1 hK1 hD1 hz1 hk1 ht hvm
  generalize H1 = H at hP hS ⊢
  replace hP : va_P (dC, dI) vwCl [(qf31, .inl (cf31, 800, .inl f31)), (qf32, .inl (cf32, 800, .inl f32)), (qf33, .inl (cf33, 800, .inl f33)), (qf35, .inl (cf35, 800, .inl f35)), (qf34, .inl (cf34, 800, .inl f34)), (qf29, .inl (cf29, 800, .inl f29)), (qf30, .inl (cf30, 800, .inl f30)), (qf37, .inl (cf37, 800, .inl f37)), (qf36, .inl (cf36, 800, .inl f36)), (qf40, .inl (cf40, 1500, .inl f40)), (qf41, .inl (cf41, 1500, .inl f41)), (qf42, .inl (cf42, 1500, .inl f42)), (qf44, .inl (cf44, 1500, .inl f44)), (qf43, .inl (cf43, 1500, .inl f43)), (h0, .inr (13, z_1)), (qf5, .inl (cf5, 3002, .inl f5)), (qf6, .inl (cf6, 3002, .inl f6)), (qf2, .inl (cf2, 3000, .inl f2)), (qf25, .inl (cf25, 400, .inl f25))] H := hP
  replace hD : va_D A [(qf31, .inl (cf31, 800, .inl f31)), (qf32, .inl (cf32, 800, .inl f32)), (qf33, .inl (cf33, 800, .inl f33)), (qf35, .inl (cf35, 800, .inl f35)), (qf34, .inl (cf34, 800, .inl f34)), (qf29, .inl (cf29, 800, .inl f29)), (qf30, .inl (cf30, 800, .inl f30)), (qf37, .inl (cf37, 800, .inl f37)), (qf36, .inl (cf36, 800, .inl f36)), (qf40, .inl (cf40, 1500, .inl f40)), (qf41, .inl (cf41, 1500, .inl f41)), (qf42, .inl (cf42, 1500, .inl f42)), (qf44, .inl (cf44, 1500, .inl f44)), (qf43, .inl (cf43, 1500, .inl f43)), (h0, .inr (13, z_1)), (qf5, .inl (cf5, 3002, .inl f5)), (qf6, .inl (cf6, 3002, .inl f6)), (qf2, .inl (cf2, 3000, .inl f2)), (qf25, .inl (cf25, 400, .inl f25))] := hD
  replace hK : va_K (dC, dI) vwCl [(cf31, .int), (cf32, .int), (cf33, .boolean), (cf35, .int), (cf34, .int), (cf29, .int), (cf30, .int), (cf37, .int), (cf36, .int), (cf40, .int), (cf41, .int), (cf42, .boolean), (cf44, .int), (cf43, .int), (cf5, .int), (cf6, .int), (cf2, .int), (cf25, .int)] s := hK
  obtain ⟨hwa_1, hln_1, hre_1, hch_1_10, hch_1_9⟩ := hw
  have hfk_1_2 : z_1[2]? = some (.ref qf2) := (hre_1 2 (by decide) (by decide)).trans (hf2)
  have hfk_1_5 : z_1[5]? = some (.ref qf5) := (hre_1 5 (by decide) (by decide)).trans (hf5)
  have hfk_1_6 : z_1[6]? = some (.ref qf6) := (hre_1 6 (by decide) (by decide)).trans (hf6)
  have hfk_1_24 : z_1[24]? = some (.int v24) := (hre_1 24 (by decide) (by decide)).trans (hf24)
  have hfk_1_25 : z_1[25]? = some (.ref qf25) := (hre_1 25 (by decide) (by decide)).trans (hf25)
  have hfk_1_29 : z_1[29]? = some (.ref qf29) := (hre_1 29 (by decide) (by decide)).trans (hf29)
  have hfk_1_30 : z_1[30]? = some (.ref qf30) := (hre_1 30 (by decide) (by decide)).trans (hf30)
  have hfk_1_31 : z_1[31]? = some (.ref qf31) := (hre_1 31 (by decide) (by decide)).trans (hf31)
  have hfk_1_32 : z_1[32]? = some (.ref qf32) := (hre_1 32 (by decide) (by decide)).trans (hf32)
  have hfk_1_33 : z_1[33]? = some (.ref qf33) := (hre_1 33 (by decide) (by decide)).trans (hf33)
  have hfk_1_34 : z_1[34]? = some (.ref qf34) := (hre_1 34 (by decide) (by decide)).trans (hf34)
  have hfk_1_35 : z_1[35]? = some (.ref qf35) := (hre_1 35 (by decide) (by decide)).trans (hf35)
  have hfk_1_36 : z_1[36]? = some (.ref qf36) := (hre_1 36 (by decide) (by decide)).trans (hf36)
  have hfk_1_37 : z_1[37]? = some (.ref qf37) := (hre_1 37 (by decide) (by decide)).trans (hf37)
  have hfk_1_40 : z_1[40]? = some (.ref qf40) := (hre_1 40 (by decide) (by decide)).trans (hf40)
  have hfk_1_41 : z_1[41]? = some (.ref qf41) := (hre_1 41 (by decide) (by decide)).trans (hf41)
  have hfk_1_42 : z_1[42]? = some (.ref qf42) := (hre_1 42 (by decide) (by decide)).trans (hf42)
  have hfk_1_43 : z_1[43]? = some (.ref qf43) := (hre_1 43 (by decide) (by decide)).trans (hf43)
  have hfk_1_44 : z_1[44]? = some (.ref qf44) := (hre_1 44 (by decide) (by decide)).trans (hf44)
  have hrq_1 : ∀ j : Nat, j ≠ 10 → j ≠ 9 → z_1[j]? = zs[j]? := fun j g10 g9 => (hre_1 j g10 g9).trans (hrs0 j g10 g9)
  obtain rfl := hwa_1
  obtain ⟨hi_5, hsp⟩ := ox_in hsp
  refine va_iast hx hb hK hP hD hS 3 3 rfl rfl (i := a1) (x := u1_0) hi_5 dX13_memberHead_27 ?_
  clear hP hD hS
  intro H locs hP hD hS
  replace hP : va_P (dC, dI) vwCl [(qf31, .inl (cf31, 800, .inl f31)), (qf32, .inl (cf32, 800, .inl f32)), (qf33, .inl (cf33, 800, .inl f33)), (qf35, .inl (cf35, 800, .inl (upd f35 (a1 : Int32).toNatClampNeg u1_0))), (qf34, .inl (cf34, 800, .inl f34)), (qf29, .inl (cf29, 800, .inl f29)), (qf30, .inl (cf30, 800, .inl f30)), (qf37, .inl (cf37, 800, .inl f37)), (qf36, .inl (cf36, 800, .inl f36)), (qf40, .inl (cf40, 1500, .inl f40)), (qf41, .inl (cf41, 1500, .inl f41)), (qf42, .inl (cf42, 1500, .inl f42)), (qf44, .inl (cf44, 1500, .inl f44)), (qf43, .inl (cf43, 1500, .inl f43)), (h0, .inr (13, z_1)), (qf5, .inl (cf5, 3002, .inl f5)), (qf6, .inl (cf6, 3002, .inl f6)), (qf2, .inl (cf2, 3000, .inl f2)), (qf25, .inl (cf25, 400, .inl f25))] H := hP
  replace hD : va_D A [(qf31, .inl (cf31, 800, .inl f31)), (qf32, .inl (cf32, 800, .inl f32)), (qf33, .inl (cf33, 800, .inl f33)), (qf35, .inl (cf35, 800, .inl (upd f35 (a1 : Int32).toNatClampNeg u1_0))), (qf34, .inl (cf34, 800, .inl f34)), (qf29, .inl (cf29, 800, .inl f29)), (qf30, .inl (cf30, 800, .inl f30)), (qf37, .inl (cf37, 800, .inl f37)), (qf36, .inl (cf36, 800, .inl f36)), (qf40, .inl (cf40, 1500, .inl f40)), (qf41, .inl (cf41, 1500, .inl f41)), (qf42, .inl (cf42, 1500, .inl f42)), (qf44, .inl (cf44, 1500, .inl f44)), (qf43, .inl (cf43, 1500, .inl f43)), (h0, .inr (13, z_1)), (qf5, .inl (cf5, 3002, .inl f5)), (qf6, .inl (cf6, 3002, .inl f6)), (qf2, .inl (cf2, 3000, .inl f2)), (qf25, .inl (cf25, 400, .inl f25))] := hD
  refine lv_iconst (v := 0) hx hb dX13_memberHead_28 (by decide) ?_
  refine lv_istore_n (lv' := [(2, .int 0), (0, .ref h0), (1, .int a1)]) hx hb dX13_memberHead_29 rfl hl (by decide) rfl (fun ls hl => ?_)
  refine lv_iconst (v := 0) hx hb dX13_memberHead_30 (by decide) ?_
  refine lv_istore_n (lv' := [(3, .int 0), (2, .int 0), (0, .ref h0), (1, .int a1)]) hx hb dX13_memberHead_31 rfl hl (by decide) rfl (fun ls hl => ?_)
  refine lv_iconst (v := 0) hx hb dX13_memberHead_32 (by decide) ?_
  refine lv_istore (lv' := [(4, .int 0), (3, .int 0), (2, .int 0), (0, .ref h0), (1, .int a1)]) hx hb dX13_memberHead_33 hl (by decide) rfl (fun ls hl => ?_)
  replace hl : lv_has ls 7 [(4, .int 0), (3, .int 0), (2, .int 0), (0, .ref h0), (1, .int a1)] := lv_sub hl [0, 1, 2, 3, 4] rfl
  replace hP := hP.sub (ws' := [(h0, .inr (13, z_1)), (qf31, .inl (cf31, 800, .inl f31)), (qf32, .inl (cf32, 800, .inl f32)), (qf33, .inl (cf33, 800, .inl f33)), (qf5, .inl (cf5, 3002, .inl f5)), (qf6, .inl (cf6, 3002, .inl f6)), (qf2, .inl (cf2, 3000, .inl f2)), (qf25, .inl (cf25, 400, .inl f25)), (qf35, .inl (cf35, 800, .inl (upd f35 (a1 : Int32).toNatClampNeg u1_0))), (qf34, .inl (cf34, 800, .inl f34)), (qf29, .inl (cf29, 800, .inl f29)), (qf30, .inl (cf30, 800, .inl f30)), (qf37, .inl (cf37, 800, .inl f37)), (qf36, .inl (cf36, 800, .inl f36)), (qf40, .inl (cf40, 1500, .inl f40)), (qf41, .inl (cf41, 1500, .inl f41)), (qf42, .inl (cf42, 1500, .inl f42)), (qf44, .inl (cf44, 1500, .inl f44)), (qf43, .inl (cf43, 1500, .inl f43))]) [14, 0, 1, 2, 15, 16, 17, 18, 3, 4, 5, 6, 7, 8, 9, 10, 11, 12, 13] rfl
  replace hD := hD.sub (ws' := [(h0, .inr (13, z_1)), (qf31, .inl (cf31, 800, .inl f31)), (qf32, .inl (cf32, 800, .inl f32)), (qf33, .inl (cf33, 800, .inl f33)), (qf5, .inl (cf5, 3002, .inl f5)), (qf6, .inl (cf6, 3002, .inl f6)), (qf2, .inl (cf2, 3000, .inl f2)), (qf25, .inl (cf25, 400, .inl f25)), (qf35, .inl (cf35, 800, .inl (upd f35 (a1 : Int32).toNatClampNeg u1_0))), (qf34, .inl (cf34, 800, .inl f34)), (qf29, .inl (cf29, 800, .inl f29)), (qf30, .inl (cf30, 800, .inl f30)), (qf37, .inl (cf37, 800, .inl f37)), (qf36, .inl (cf36, 800, .inl f36)), (qf40, .inl (cf40, 1500, .inl f40)), (qf41, .inl (cf41, 1500, .inl f41)), (qf42, .inl (cf42, 1500, .inl f42)), (qf44, .inl (cf44, 1500, .inl f44)), (qf43, .inl (cf43, 1500, .inl f43))]) [14, 0, 1, 2, 15, 16, 17, 18, 3, 4, 5, 6, 7, 8, 9, 10, 11, 12, 13] (by decide) rfl
  replace hK := hK.sub (tys' := [(cf31, .int), (cf32, .int), (cf33, .boolean), (cf5, .int), (cf6, .int), (cf2, .int), (cf25, .int), (cf35, .int), (cf34, .int), (cf29, .int), (cf30, .int), (cf37, .int), (cf36, .int), (cf40, .int), (cf41, .int), (cf42, .boolean), (cf44, .int), (cf43, .int)]) [0, 1, 2, 14, 15, 16, 17, 3, 4, 5, 6, 7, 8, 9, 10, 11, 12, 13] rfl
  obtain ⟨n_35, hn_35⟩ : ∃ z : Nat, z = nf := ⟨_, rfl⟩
  obtain ⟨l1_35, el1_35⟩ : ∃ z : Int32, z = a1 := ⟨_, rfl⟩
  obtain ⟨l2_35, el2_35⟩ : ∃ z : Int32, z = 0 := ⟨_, rfl⟩
  obtain ⟨l3_35, el3_35⟩ : ∃ z : Int32, z = 0 := ⟨_, rfl⟩
  obtain ⟨l4_35, el4_35⟩ : ∃ z : Int32, z = 0 := ⟨_, rfl⟩
  obtain ⟨g35_35, eg35_35⟩ : ∃ z : Nat → Int32, z = (upd f35 (a1 : Int32).toNatClampNeg u1_0) := ⟨_, rfl⟩
  obtain ⟨g44_35, eg44_35⟩ : ∃ z : Nat → Int32, z = f44 := ⟨_, rfl⟩
  obtain ⟨x10_35, ex10_35⟩ : ∃ z : Int32, z = u1_1 := ⟨_, rfl⟩
  obtain ⟨x9_35, ex9_35⟩ : ∃ z : Int32, z = u1_2 := ⟨_, rfl⟩
  replace hsp : lp_vm_memberHead_35 nf n_35 a1 v9 v10 v24 f31 f32 f33 f5 f6 f2 f25 f35 f34 f29 f30 f37 f36 f40 f41 f42 f44 f43 nS477 fS477 l1_35 l2_35 l3_35 l4_35 g35_35 g44_35 x10_35 x9_35 = some (o35, o44, w10, w9) := by rw [hn_35, el1_35, el2_35, el3_35, el4_35, eg35_35, eg44_35, ex10_35, ex9_35]; exact hsp
  replace hl : lv_has ls 7 [(4, .int l4_35), (3, .int l3_35), (2, .int l2_35), (0, .ref h0), (1, .int l1_35)] := by rw [el1_35, el2_35, el3_35, el4_35]; exact hl
  obtain ⟨z35, ez35⟩ : ∃ z : List Value, z = z_1 := ⟨_, rfl⟩
  have hfh_35_2 : z35[2]? = some (.ref qf2) := by rw [ez35]; exact hfk_1_2
  have hfh_35_5 : z35[5]? = some (.ref qf5) := by rw [ez35]; exact hfk_1_5
  have hfh_35_6 : z35[6]? = some (.ref qf6) := by rw [ez35]; exact hfk_1_6
  have hfh_35_9 : z35[9]? = some (.int x9_35) := by rw [ez35, ex9_35]; exact hch_1_9
  have hfh_35_10 : z35[10]? = some (.int x10_35) := by rw [ez35, ex10_35]; exact hch_1_10
  have hfh_35_24 : z35[24]? = some (.int v24) := by rw [ez35]; exact hfk_1_24
  have hfh_35_25 : z35[25]? = some (.ref qf25) := by rw [ez35]; exact hfk_1_25
  have hfh_35_29 : z35[29]? = some (.ref qf29) := by rw [ez35]; exact hfk_1_29
  have hfh_35_30 : z35[30]? = some (.ref qf30) := by rw [ez35]; exact hfk_1_30
  have hfh_35_31 : z35[31]? = some (.ref qf31) := by rw [ez35]; exact hfk_1_31
  have hfh_35_32 : z35[32]? = some (.ref qf32) := by rw [ez35]; exact hfk_1_32
  have hfh_35_33 : z35[33]? = some (.ref qf33) := by rw [ez35]; exact hfk_1_33
  have hfh_35_34 : z35[34]? = some (.ref qf34) := by rw [ez35]; exact hfk_1_34
  have hfh_35_35 : z35[35]? = some (.ref qf35) := by rw [ez35]; exact hfk_1_35
  have hfh_35_36 : z35[36]? = some (.ref qf36) := by rw [ez35]; exact hfk_1_36
  have hfh_35_37 : z35[37]? = some (.ref qf37) := by rw [ez35]; exact hfk_1_37
  have hfh_35_40 : z35[40]? = some (.ref qf40) := by rw [ez35]; exact hfk_1_40
  have hfh_35_41 : z35[41]? = some (.ref qf41) := by rw [ez35]; exact hfk_1_41
  have hfh_35_42 : z35[42]? = some (.ref qf42) := by rw [ez35]; exact hfk_1_42
  have hfh_35_43 : z35[43]? = some (.ref qf43) := by rw [ez35]; exact hfk_1_43
  have hfh_35_44 : z35[44]? = some (.ref qf44) := by rw [ez35]; exact hfk_1_44
  have hlh_35 : z35.length = 155 := by rw [ez35]; exact hln_1
  have hrh_35 : ∀ j : Nat, j ≠ 10 → j ≠ 9 → z35[j]? = zs[j]? := by rw [ez35]; exact hrq_1
  replace hP : va_P (dC, dI) vwCl [(h0, .inr (13, z35)), (qf31, .inl (cf31, 800, .inl f31)), (qf32, .inl (cf32, 800, .inl f32)), (qf33, .inl (cf33, 800, .inl f33)), (qf5, .inl (cf5, 3002, .inl f5)), (qf6, .inl (cf6, 3002, .inl f6)), (qf2, .inl (cf2, 3000, .inl f2)), (qf25, .inl (cf25, 400, .inl f25)), (qf35, .inl (cf35, 800, .inl g35_35)), (qf34, .inl (cf34, 800, .inl f34)), (qf29, .inl (cf29, 800, .inl f29)), (qf30, .inl (cf30, 800, .inl f30)), (qf37, .inl (cf37, 800, .inl f37)), (qf36, .inl (cf36, 800, .inl f36)), (qf40, .inl (cf40, 1500, .inl f40)), (qf41, .inl (cf41, 1500, .inl f41)), (qf42, .inl (cf42, 1500, .inl f42)), (qf44, .inl (cf44, 1500, .inl g44_35)), (qf43, .inl (cf43, 1500, .inl f43))] H := by rw [ez35, eg35_35, eg44_35]; exact hP
  replace hD : va_D A [(h0, .inr (13, z35)), (qf31, .inl (cf31, 800, .inl f31)), (qf32, .inl (cf32, 800, .inl f32)), (qf33, .inl (cf33, 800, .inl f33)), (qf5, .inl (cf5, 3002, .inl f5)), (qf6, .inl (cf6, 3002, .inl f6)), (qf2, .inl (cf2, 3000, .inl f2)), (qf25, .inl (cf25, 400, .inl f25)), (qf35, .inl (cf35, 800, .inl g35_35)), (qf34, .inl (cf34, 800, .inl f34)), (qf29, .inl (cf29, 800, .inl f29)), (qf30, .inl (cf30, 800, .inl f30)), (qf37, .inl (cf37, 800, .inl f37)), (qf36, .inl (cf36, 800, .inl f36)), (qf40, .inl (cf40, 1500, .inl f40)), (qf41, .inl (cf41, 1500, .inl f41)), (qf42, .inl (cf42, 1500, .inl f42)), (qf44, .inl (cf44, 1500, .inl g44_35)), (qf43, .inl (cf43, 1500, .inl f43))] := by rw [ez35, eg35_35, eg44_35]; exact hD
  clear hn_35 ez35 el1_35 el2_35 el3_35 el4_35 eg35_35 eg44_35 ex10_35 ex9_35
  try clear hlo
  try clear hH
  revert hsp
  revert hP
  revert hD
  revert hS
  revert hl
  revert hrh_35
  revert hlh_35
  revert hfh_35_44
  revert hfh_35_43
  revert hfh_35_42
  revert hfh_35_41
  revert hfh_35_40
  revert hfh_35_37
  revert hfh_35_36
  revert hfh_35_35
  revert hfh_35_34
  revert hfh_35_33
  revert hfh_35_32
  revert hfh_35_31
  revert hfh_35_30
  revert hfh_35_29
  revert hfh_35_25
  revert hfh_35_24
  revert hfh_35_10
  revert hfh_35_9
  revert hfh_35_6
  revert hfh_35_5
  revert hfh_35_2
  revert x9_35
  revert x10_35
  revert g44_35
  revert g35_35
  revert l4_35
  revert l3_35
  revert l2_35
  revert l1_35
  revert z35
  revert ls
  revert locs
  revert H
  induction n_35 with
  | zero => intro H locs ls z35 l1_35 l2_35 l3_35 l4_35 g35_35 g44_35 x10_35 x9_35 hfh_35_2 hfh_35_5 hfh_35_6 hfh_35_9 hfh_35_10 hfh_35_24 hfh_35_25 hfh_35_29 hfh_35_30 hfh_35_31 hfh_35_32 hfh_35_33 hfh_35_34 hfh_35_35 hfh_35_36 hfh_35_37 hfh_35_40 hfh_35_41 hfh_35_42 hfh_35_43 hfh_35_44 hlh_35 hrh_35 hl hS hD hP hsp; unfold lp_vm_memberHead_35 at hsp; cases hsp
  | succ n_35 ih_35 =>
    intro H locs ls z35 l1_35 l2_35 l3_35 l4_35 g35_35 g44_35 x10_35 x9_35 hfh_35_2 hfh_35_5 hfh_35_6 hfh_35_9 hfh_35_10 hfh_35_24 hfh_35_25 hfh_35_29 hfh_35_30 hfh_35_31 hfh_35_32 hfh_35_33 hfh_35_34 hfh_35_35 hfh_35_36 hfh_35_37 hfh_35_40 hfh_35_41 hfh_35_42 hfh_35_43 hfh_35_44 hlh_35 hrh_35 hl hS hD hP hsp
    unfold lp_vm_memberHead_35 at hsp
    try dsimp only at hsp
    refine jn_use (α := Heap × List Loc × Array Slot × List Value × Int32 × Int32 × Int32 × Int32 × Int32 × Int32 × (Nat → Int32) × (Nat → Int32) × Int32 × Int32) (fun x9 => x9.1) (fun x9 => x9.2.1) (fun x9 => F0 m 86 x9.2.2.1 [.int (x9.2.2.2.2.2.2.2.2.1), .int (x9.2.2.2.2.2.2.2.2.2.1)]) (fun x9 => match x9 with | (H, locs, ls, z86, l1_86, l2_86, l3_86, l4_86, s0_86, s1_86, g35_86, g44_86, x10_86, x9_86) => lv_has ls 7 [(0, .ref h0), (1, .int l1_86), (2, .int l2_86), (3, .int l3_86), (4, .int l4_86)] ∧ va_S A s.heap H locs ∧ va_D A [(h0, .inr (13, z86)), (qf31, .inl (cf31, 800, .inl f31)), (qf32, .inl (cf32, 800, .inl f32)), (qf33, .inl (cf33, 800, .inl f33)), (qf5, .inl (cf5, 3002, .inl f5)), (qf6, .inl (cf6, 3002, .inl f6)), (qf2, .inl (cf2, 3000, .inl f2)), (qf25, .inl (cf25, 400, .inl f25)), (qf35, .inl (cf35, 800, .inl g35_86)), (qf34, .inl (cf34, 800, .inl f34)), (qf29, .inl (cf29, 800, .inl f29)), (qf30, .inl (cf30, 800, .inl f30)), (qf37, .inl (cf37, 800, .inl f37)), (qf36, .inl (cf36, 800, .inl f36)), (qf40, .inl (cf40, 1500, .inl f40)), (qf41, .inl (cf41, 1500, .inl f41)), (qf42, .inl (cf42, 1500, .inl f42)), (qf44, .inl (cf44, 1500, .inl g44_86)), (qf43, .inl (cf43, 1500, .inl f43))] ∧ va_P (dC, dI) vwCl [(h0, .inr (13, z86)), (qf31, .inl (cf31, 800, .inl f31)), (qf32, .inl (cf32, 800, .inl f32)), (qf33, .inl (cf33, 800, .inl f33)), (qf5, .inl (cf5, 3002, .inl f5)), (qf6, .inl (cf6, 3002, .inl f6)), (qf2, .inl (cf2, 3000, .inl f2)), (qf25, .inl (cf25, 400, .inl f25)), (qf35, .inl (cf35, 800, .inl g35_86)), (qf34, .inl (cf34, 800, .inl f34)), (qf29, .inl (cf29, 800, .inl f29)), (qf30, .inl (cf30, 800, .inl f30)), (qf37, .inl (cf37, 800, .inl f37)), (qf36, .inl (cf36, 800, .inl f36)), (qf40, .inl (cf40, 1500, .inl f40)), (qf41, .inl (cf41, 1500, .inl f41)), (qf42, .inl (cf42, 1500, .inl f42)), (qf44, .inl (cf44, 1500, .inl g44_86)), (qf43, .inl (cf43, 1500, .inl f43))] H ∧ z86[2]? = some (.ref qf2) ∧ z86[5]? = some (.ref qf5) ∧ z86[6]? = some (.ref qf6) ∧ z86[9]? = some (.int x9_86) ∧ z86[10]? = some (.int x10_86) ∧ z86[24]? = some (.int v24) ∧ z86[25]? = some (.ref qf25) ∧ z86[29]? = some (.ref qf29) ∧ z86[30]? = some (.ref qf30) ∧ z86[31]? = some (.ref qf31) ∧ z86[32]? = some (.ref qf32) ∧ z86[33]? = some (.ref qf33) ∧ z86[34]? = some (.ref qf34) ∧ z86[35]? = some (.ref qf35) ∧ z86[36]? = some (.ref qf36) ∧ z86[37]? = some (.ref qf37) ∧ z86[40]? = some (.ref qf40) ∧ z86[41]? = some (.ref qf41) ∧ z86[42]? = some (.ref qf42) ∧ z86[43]? = some (.ref qf43) ∧ z86[44]? = some (.ref qf44) ∧ z86.length = 155 ∧ (∀ j : Nat, j ≠ 10 → j ≠ 9 → z86[j]? = zs[j]?) ∧ jn_vm_memberHead_86 nf a1 v9 v10 v24 f31 f32 f33 f5 f6 f2 f25 f35 f34 f29 f30 f37 f36 f40 f41 f42 f44 f43 nS477 fS477 (lp_vm_memberHead_35 nf n_35 a1 v9 v10 v24 f31 f32 f33 f5 f6 f2 f25 f35 f34 f29 f30 f37 f36 f40 f41 f42 f44 f43 nS477 fS477) l1_86 l2_86 l3_86 l4_86 s0_86 s1_86 g35_86 g44_86 x10_86 x9_86 = some (o35, o44, w10, w9)) ?_ ?_
    · intro x9 hJ9
      obtain ⟨H, locs, ls, z86, l1_86, l2_86, l3_86, l4_86, s0_86, s1_86, g35_86, g44_86, x10_86, x9_86⟩ := x9
      obtain ⟨hl, hS, hD, hP, hfh_86_2, hfh_86_5, hfh_86_6, hfh_86_9, hfh_86_10, hfh_86_24, hfh_86_25, hfh_86_29, hfh_86_30, hfh_86_31, hfh_86_32, hfh_86_33, hfh_86_34, hfh_86_35, hfh_86_36, hfh_86_37, hfh_86_40, hfh_86_41, hfh_86_42, hfh_86_43, hfh_86_44, hlh_86, hrh_86, hsp⟩ := hJ9
      replace hl : lv_has ls 7 [(0, .ref h0), (1, .int l1_86), (2, .int l2_86), (3, .int l3_86), (4, .int l4_86)] := hl
      replace hS : va_S A s.heap H locs := hS
      replace hD : va_D A [(h0, .inr (13, z86)), (qf31, .inl (cf31, 800, .inl f31)), (qf32, .inl (cf32, 800, .inl f32)), (qf33, .inl (cf33, 800, .inl f33)), (qf5, .inl (cf5, 3002, .inl f5)), (qf6, .inl (cf6, 3002, .inl f6)), (qf2, .inl (cf2, 3000, .inl f2)), (qf25, .inl (cf25, 400, .inl f25)), (qf35, .inl (cf35, 800, .inl g35_86)), (qf34, .inl (cf34, 800, .inl f34)), (qf29, .inl (cf29, 800, .inl f29)), (qf30, .inl (cf30, 800, .inl f30)), (qf37, .inl (cf37, 800, .inl f37)), (qf36, .inl (cf36, 800, .inl f36)), (qf40, .inl (cf40, 1500, .inl f40)), (qf41, .inl (cf41, 1500, .inl f41)), (qf42, .inl (cf42, 1500, .inl f42)), (qf44, .inl (cf44, 1500, .inl g44_86)), (qf43, .inl (cf43, 1500, .inl f43))] := hD
      replace hP : va_P (dC, dI) vwCl [(h0, .inr (13, z86)), (qf31, .inl (cf31, 800, .inl f31)), (qf32, .inl (cf32, 800, .inl f32)), (qf33, .inl (cf33, 800, .inl f33)), (qf5, .inl (cf5, 3002, .inl f5)), (qf6, .inl (cf6, 3002, .inl f6)), (qf2, .inl (cf2, 3000, .inl f2)), (qf25, .inl (cf25, 400, .inl f25)), (qf35, .inl (cf35, 800, .inl g35_86)), (qf34, .inl (cf34, 800, .inl f34)), (qf29, .inl (cf29, 800, .inl f29)), (qf30, .inl (cf30, 800, .inl f30)), (qf37, .inl (cf37, 800, .inl f37)), (qf36, .inl (cf36, 800, .inl f36)), (qf40, .inl (cf40, 1500, .inl f40)), (qf41, .inl (cf41, 1500, .inl f41)), (qf42, .inl (cf42, 1500, .inl f42)), (qf44, .inl (cf44, 1500, .inl g44_86)), (qf43, .inl (cf43, 1500, .inl f43))] H := hP
      replace hsp : jn_vm_memberHead_86 nf a1 v9 v10 v24 f31 f32 f33 f5 f6 f2 f25 f35 f34 f29 f30 f37 f36 f40 f41 f42 f44 f43 nS477 fS477 (lp_vm_memberHead_35 nf n_35 a1 v9 v10 v24 f31 f32 f33 f5 f6 f2 f25 f35 f34 f29 f30 f37 f36 f40 f41 f42 f44 f43 nS477 fS477) l1_86 l2_86 l3_86 l4_86 s0_86 s1_86 g35_86 g44_86 x10_86 x9_86 = some (o35, o44, w10, w9) := hsp
      show W _ _ _ _ _ _ _ _ _ _ H locs _ _ _ (F0 m 86 ls [.int s0_86, .int s1_86])
      unfold jn_vm_memberHead_86 at hsp
      try dsimp only at hsp
      refine lv_icmp_eq (tgt := 92) hx hb dX13_memberHead_86 (by decide) (fun c_16 => ?_) (fun c_16 => ?_)
      · rw [if_pos c_16] at hsp
        refine lv_iinc (v := (l2_86 + 1)) (lv' := [(2, .int (l2_86 + 1)), (0, .ref h0), (1, .int l1_86), (3, .int l3_86), (4, .int l4_86)]) hx hb dX13_memberHead_92 hl (k := 2) rfl rfl (by decide) rfl (fun ls hl => ?_)
        refine lv_iload_n hx hb dX13_memberHead_95 rfl (lv_at hl 3 rfl) ?_
        refine lv_aload_n hx hb dX13_memberHead_96 rfl (lv_at hl 1 rfl) ?_
        refine lv_aload_n hx hb dX13_memberHead_97 rfl (lv_at hl 1 rfl) ?_
        refine va_get (D := (dC, dI)) (ci := 13) (v := .ref qf34) (C := RX13) (T := TX13) (N := 155) hx hb hts uV_h9_X13 hown hK hP 0 rfl rfl 34 (by decide) (hts (.fieldLink RX13 86 "ClassMillModel" "memberName" "[I") mw_h9_118) (fun _ h9 => h9) hfh_86_34 dX13_memberHead_98 ?_
        refine lv_iload hx hb dX13_memberHead_101 (lv_at hl 4 rfl) ?_
        obtain ⟨hi_17, hsp⟩ := ox_in hsp
        refine va_iald hx hb hK hP 9 8 rfl rfl (i := l4_86) hi_17 dX13_memberHead_103 ?_
        refine lv_aload_n hx hb dX13_memberHead_104 rfl (lv_at hl 1 rfl) ?_
        refine va_get (D := (dC, dI)) (ci := 13) (v := .ref qf34) (C := RX13) (T := TX13) (N := 155) hx hb hts uV_h9_X13 hown hK hP 0 rfl rfl 34 (by decide) (hts (.fieldLink RX13 86 "ClassMillModel" "memberName" "[I") mw_h9_118) (fun _ h9 => h9) hfh_86_34 dX13_memberHead_105 ?_
        refine lv_iload_n hx hb dX13_memberHead_108 rfl (lv_at hl 2 rfl) ?_
        obtain ⟨hi_18, hsp⟩ := ox_in hsp
        refine va_iald hx hb hK hP 9 8 rfl rfl (i := l1_86) hi_18 dX13_memberHead_109 ?_
        obtain ⟨u3_0, hu_3, hsp⟩ := ox_bind hsp
        try dsimp only at hsp
        have hPc := hP.sub (ws' := [(h0, .inr (13, z86)), (qf6, .inl (cf6, 3002, .inl f6)), (qf5, .inl (cf5, 3002, .inl f5)), (qf2, .inl (cf2, 3000, .inl f2))]) [0, 5, 4, 6] rfl
        have hDc := hD.sub (ws' := [(h0, .inr (13, z86)), (qf6, .inl (cf6, 3002, .inl f6)), (qf5, .inl (cf5, 3002, .inl f5)), (qf2, .inl (cf2, 3000, .inl f2))]) [0, 5, 4, 6] (by decide) rfl
        have hKc := hK.sub (tys' := [(cf6, .int), (cf5, .int), (cf2, .int)]) [4, 3, 5] rfl
        have hFc := va_free (wc := [(h0, .inr (13, z86)), (qf6, .inl (cf6, 3002, .inl f6)), (qf5, .inl (cf5, 3002, .inl f5)), (qf2, .inl (cf2, 3000, .inl f2))]) hD hS hA [0, 5, 4, 6] rfl
        refine va_calli (va_runV (As := [.int (f34 (l4_86 : Int32).toNatClampNeg), .int (f34 (l1_86 : Int32).toNatClampNeg)]) (rest := [.int l3_86]) ⟨hx, hb, hml, hown, hts⟩ (tn_isLike l dC dI H.size h0 z86 ((f34 (l4_86 : Int32).toNatClampNeg)) ((f34 (l1_86 : Int32).toNatClampNeg)) qf2 qf5 qf6 cf6 f6 cf5 f5 cf2 f2 nf u3_0 hlh_86 hfh_86_2 hfh_86_5 hfh_86_6 hu_3) (cwV 2 hts gv_h9_16 rfl rfl rfl (by decide +kernel) ⟨Nat.le_of_ble_eq_true rfl, Nat.le_of_ble_eq_true rfl⟩) ⟨fun a U g mk q => by obtain ⟨q0, q1, qP, qK, qD⟩ := q; exact ⟨q0, q1, qP, va_K.moved (u := U) (U := U.calling g mk a) (Vm.Alike.refl U.vm) qK, qD⟩, va_recv hKc hPc (ci := 13) (q0 := 0) rfl rfl, fun U hU hW => ⟨rfl, by rw [hU], by rw [hU]; exact hPc, va_K.moved hW.alike hKc, hDc.weaken (fun _ _ _ _ => trivial)⟩⟩ rfl rfl hl.1 rfl (lv_room (Nat.le_of_ble_eq_true rfl)) dX13_memberHead_110 ⟨Nat.le_of_ble_eq_true rfl, Nat.le_of_ble_eq_true rfl⟩) hS (fun q _ h => hFc q h) hFc ?_
        clear hS
        intro r_19 u t H1 locs ht hvm hw hB hz1 hk1 hS
        obtain ⟨z_3, rfl⟩ : ∃ z, z = u := ⟨_, rfl⟩
        obtain ⟨hP1, hK1, hD1⟩ := hB
        rw [ht] at hP1
        have hK1 := va_K.moved hvm.symm hK1
        try dsimp only at hw
        have hPD := va_join (wr := [(qf31, .inl (cf31, 800, .inl f31)), (qf32, .inl (cf32, 800, .inl f32)), (qf33, .inl (cf33, 800, .inl f33)), (qf25, .inl (cf25, 400, .inl f25)), (qf35, .inl (cf35, 800, .inl g35_86)), (qf34, .inl (cf34, 800, .inl f34)), (qf29, .inl (cf29, 800, .inl f29)), (qf30, .inl (cf30, 800, .inl f30)), (qf37, .inl (cf37, 800, .inl f37)), (qf36, .inl (cf36, 800, .inl f36)), (qf40, .inl (cf40, 1500, .inl f40)), (qf41, .inl (cf41, 1500, .inl f41)), (qf42, .inl (cf42, 1500, .inl f42)), (qf44, .inl (cf44, 1500, .inl g44_86)), (qf43, .inl (cf43, 1500, .inl f43))]) (w1 := [(h0, .inr (13, z_3)), (qf6, .inl (cf6, 3002, .inl f6)), (qf5, .inl (cf5, 3002, .inl f5)), (qf2, .inl (cf2, 3000, .inl f2))]) hP hD [0, 5, 4, 6] [1, 2, 3, 7, 8, 9, 10, 11, 12, 13, 14, 15, 16, 17, 18] rfl rfl (by decide) (by decide) hk1 hFc hP1 hD1
        clear hP hD
        obtain ⟨hP, hD⟩ := hPD
        replace hK := (hK.sub (tys' := [(cf31, .int), (cf32, .int), (cf33, .boolean), (cf25, .int), (cf35, .int), (cf34, .int), (cf29, .int), (cf30, .int), (cf37, .int), (cf36, .int), (cf40, .int), (cf41, .int), (cf42, .boolean), (cf44, .int), (cf43, .int)]) [0, 1, 2, 6, 7, 8, 9, 10, 11, 12, 13, 14, 15, 16, 17] rfl).app hK1
        clear hPc hDc hKc hFc hP1 hK1 hD1 hz1 hk1 ht hvm
        generalize H1 = H at hP hS ⊢
        replace hP : va_P (dC, dI) vwCl [(qf31, .inl (cf31, 800, .inl f31)), (qf32, .inl (cf32, 800, .inl f32)), (qf33, .inl (cf33, 800, .inl f33)), (qf25, .inl (cf25, 400, .inl f25)), (qf35, .inl (cf35, 800, .inl g35_86)), (qf34, .inl (cf34, 800, .inl f34)), (qf29, .inl (cf29, 800, .inl f29)), (qf30, .inl (cf30, 800, .inl f30)), (qf37, .inl (cf37, 800, .inl f37)), (qf36, .inl (cf36, 800, .inl f36)), (qf40, .inl (cf40, 1500, .inl f40)), (qf41, .inl (cf41, 1500, .inl f41)), (qf42, .inl (cf42, 1500, .inl f42)), (qf44, .inl (cf44, 1500, .inl g44_86)), (qf43, .inl (cf43, 1500, .inl f43)), (h0, .inr (13, z_3)), (qf6, .inl (cf6, 3002, .inl f6)), (qf5, .inl (cf5, 3002, .inl f5)), (qf2, .inl (cf2, 3000, .inl f2))] H := hP
        replace hD : va_D A [(qf31, .inl (cf31, 800, .inl f31)), (qf32, .inl (cf32, 800, .inl f32)), (qf33, .inl (cf33, 800, .inl f33)), (qf25, .inl (cf25, 400, .inl f25)), (qf35, .inl (cf35, 800, .inl g35_86)), (qf34, .inl (cf34, 800, .inl f34)), (qf29, .inl (cf29, 800, .inl f29)), (qf30, .inl (cf30, 800, .inl f30)), (qf37, .inl (cf37, 800, .inl f37)), (qf36, .inl (cf36, 800, .inl f36)), (qf40, .inl (cf40, 1500, .inl f40)), (qf41, .inl (cf41, 1500, .inl f41)), (qf42, .inl (cf42, 1500, .inl f42)), (qf44, .inl (cf44, 1500, .inl g44_86)), (qf43, .inl (cf43, 1500, .inl f43)), (h0, .inr (13, z_3)), (qf6, .inl (cf6, 3002, .inl f6)), (qf5, .inl (cf5, 3002, .inl f5)), (qf2, .inl (cf2, 3000, .inl f2))] := hD
        replace hK : va_K (dC, dI) vwCl [(cf31, .int), (cf32, .int), (cf33, .boolean), (cf25, .int), (cf35, .int), (cf34, .int), (cf29, .int), (cf30, .int), (cf37, .int), (cf36, .int), (cf40, .int), (cf41, .int), (cf42, .boolean), (cf44, .int), (cf43, .int), (cf6, .int), (cf5, .int), (cf2, .int)] s := hK
        obtain ⟨hwa_3, hln_3, hre_3⟩ := hw
        have hfk_3_2 : z_3[2]? = some (.ref qf2) := (hre_3 2 ).trans (hfh_86_2)
        have hfk_3_5 : z_3[5]? = some (.ref qf5) := (hre_3 5 ).trans (hfh_86_5)
        have hfk_3_6 : z_3[6]? = some (.ref qf6) := (hre_3 6 ).trans (hfh_86_6)
        have hfk_3_9 : z_3[9]? = some (.int x9_86) := (hre_3 9 ).trans (hfh_86_9)
        have hfk_3_10 : z_3[10]? = some (.int x10_86) := (hre_3 10 ).trans (hfh_86_10)
        have hfk_3_24 : z_3[24]? = some (.int v24) := (hre_3 24 ).trans (hfh_86_24)
        have hfk_3_25 : z_3[25]? = some (.ref qf25) := (hre_3 25 ).trans (hfh_86_25)
        have hfk_3_29 : z_3[29]? = some (.ref qf29) := (hre_3 29 ).trans (hfh_86_29)
        have hfk_3_30 : z_3[30]? = some (.ref qf30) := (hre_3 30 ).trans (hfh_86_30)
        have hfk_3_31 : z_3[31]? = some (.ref qf31) := (hre_3 31 ).trans (hfh_86_31)
        have hfk_3_32 : z_3[32]? = some (.ref qf32) := (hre_3 32 ).trans (hfh_86_32)
        have hfk_3_33 : z_3[33]? = some (.ref qf33) := (hre_3 33 ).trans (hfh_86_33)
        have hfk_3_34 : z_3[34]? = some (.ref qf34) := (hre_3 34 ).trans (hfh_86_34)
        have hfk_3_35 : z_3[35]? = some (.ref qf35) := (hre_3 35 ).trans (hfh_86_35)
        have hfk_3_36 : z_3[36]? = some (.ref qf36) := (hre_3 36 ).trans (hfh_86_36)
        have hfk_3_37 : z_3[37]? = some (.ref qf37) := (hre_3 37 ).trans (hfh_86_37)
        have hfk_3_40 : z_3[40]? = some (.ref qf40) := (hre_3 40 ).trans (hfh_86_40)
        have hfk_3_41 : z_3[41]? = some (.ref qf41) := (hre_3 41 ).trans (hfh_86_41)
        have hfk_3_42 : z_3[42]? = some (.ref qf42) := (hre_3 42 ).trans (hfh_86_42)
        have hfk_3_43 : z_3[43]? = some (.ref qf43) := (hre_3 43 ).trans (hfh_86_43)
        have hfk_3_44 : z_3[44]? = some (.ref qf44) := (hre_3 44 ).trans (hfh_86_44)
        have hrq_3 : ∀ j : Nat, j ≠ 10 → j ≠ 9 → z_3[j]? = zs[j]? := fun j g10 g9 => (hre_3 j ).trans (hrh_86 j g10 g9)
        obtain ⟨rfl, hz_3⟩ := hwa_3
        rcases hz_3 with rfl | rfl
        · rw [if_pos rfl] at hsp
          refine lv_ior hx hb dX13_memberHead_113 ?_
          refine lv_istore_n (lv' := [(3, .int (l3_86 ||| 0)), (2, .int (l2_86 + 1)), (0, .ref h0), (1, .int l1_86), (4, .int l4_86)]) hx hb dX13_memberHead_114 rfl hl (by decide) rfl (fun ls hl => ?_)
          refine lv_iinc (v := (l4_86 + 1)) (lv' := [(4, .int (l4_86 + 1)), (3, .int (l3_86 ||| 0)), (2, .int (l2_86 + 1)), (0, .ref h0), (1, .int l1_86)]) hx hb dX13_memberHead_115 hl (k := 4) rfl rfl (by decide) rfl (fun ls hl => ?_)
          refine lv_goto (tgt := 35) hx hb dX13_memberHead_118 (by decide) ?_
          exact ih_35 H locs ls z_3 l1_86 (l2_86 + 1) (l3_86 ||| 0) (l4_86 + 1) g35_86 g44_86 x10_86 x9_86 (hfk_3_2) (hfk_3_5) (hfk_3_6) (hfk_3_9) (hfk_3_10) (hfk_3_24) (hfk_3_25) (hfk_3_29) (hfk_3_30) (hfk_3_31) (hfk_3_32) (hfk_3_33) (hfk_3_34) (hfk_3_35) (hfk_3_36) (hfk_3_37) (hfk_3_40) (hfk_3_41) (hfk_3_42) (hfk_3_43) (hfk_3_44) hln_3 hrq_3 (lv_sub hl [0, 1, 2, 3, 4] rfl) hS (hD.sub (ws' := [(h0, .inr (13, z_3)), (qf31, .inl (cf31, 800, .inl f31)), (qf32, .inl (cf32, 800, .inl f32)), (qf33, .inl (cf33, 800, .inl f33)), (qf5, .inl (cf5, 3002, .inl f5)), (qf6, .inl (cf6, 3002, .inl f6)), (qf2, .inl (cf2, 3000, .inl f2)), (qf25, .inl (cf25, 400, .inl f25)), (qf35, .inl (cf35, 800, .inl g35_86)), (qf34, .inl (cf34, 800, .inl f34)), (qf29, .inl (cf29, 800, .inl f29)), (qf30, .inl (cf30, 800, .inl f30)), (qf37, .inl (cf37, 800, .inl f37)), (qf36, .inl (cf36, 800, .inl f36)), (qf40, .inl (cf40, 1500, .inl f40)), (qf41, .inl (cf41, 1500, .inl f41)), (qf42, .inl (cf42, 1500, .inl f42)), (qf44, .inl (cf44, 1500, .inl g44_86)), (qf43, .inl (cf43, 1500, .inl f43))]) [15, 0, 1, 2, 17, 16, 18, 3, 4, 5, 6, 7, 8, 9, 10, 11, 12, 13, 14] (by decide) rfl) (hP.sub (ws' := [(h0, .inr (13, z_3)), (qf31, .inl (cf31, 800, .inl f31)), (qf32, .inl (cf32, 800, .inl f32)), (qf33, .inl (cf33, 800, .inl f33)), (qf5, .inl (cf5, 3002, .inl f5)), (qf6, .inl (cf6, 3002, .inl f6)), (qf2, .inl (cf2, 3000, .inl f2)), (qf25, .inl (cf25, 400, .inl f25)), (qf35, .inl (cf35, 800, .inl g35_86)), (qf34, .inl (cf34, 800, .inl f34)), (qf29, .inl (cf29, 800, .inl f29)), (qf30, .inl (cf30, 800, .inl f30)), (qf37, .inl (cf37, 800, .inl f37)), (qf36, .inl (cf36, 800, .inl f36)), (qf40, .inl (cf40, 1500, .inl f40)), (qf41, .inl (cf41, 1500, .inl f41)), (qf42, .inl (cf42, 1500, .inl f42)), (qf44, .inl (cf44, 1500, .inl g44_86)), (qf43, .inl (cf43, 1500, .inl f43))]) [15, 0, 1, 2, 17, 16, 18, 3, 4, 5, 6, 7, 8, 9, 10, 11, 12, 13, 14] rfl) hsp
        · rw [if_neg (by decide)] at hsp
          refine lv_ior hx hb dX13_memberHead_113 ?_
          refine lv_istore_n (lv' := [(3, .int (l3_86 ||| 1)), (2, .int (l2_86 + 1)), (0, .ref h0), (1, .int l1_86), (4, .int l4_86)]) hx hb dX13_memberHead_114 rfl hl (by decide) rfl (fun ls hl => ?_)
          refine lv_iinc (v := (l4_86 + 1)) (lv' := [(4, .int (l4_86 + 1)), (3, .int (l3_86 ||| 1)), (2, .int (l2_86 + 1)), (0, .ref h0), (1, .int l1_86)]) hx hb dX13_memberHead_115 hl (k := 4) rfl rfl (by decide) rfl (fun ls hl => ?_)
          refine lv_goto (tgt := 35) hx hb dX13_memberHead_118 (by decide) ?_
          exact ih_35 H locs ls z_3 l1_86 (l2_86 + 1) (l3_86 ||| 1) (l4_86 + 1) g35_86 g44_86 x10_86 x9_86 (hfk_3_2) (hfk_3_5) (hfk_3_6) (hfk_3_9) (hfk_3_10) (hfk_3_24) (hfk_3_25) (hfk_3_29) (hfk_3_30) (hfk_3_31) (hfk_3_32) (hfk_3_33) (hfk_3_34) (hfk_3_35) (hfk_3_36) (hfk_3_37) (hfk_3_40) (hfk_3_41) (hfk_3_42) (hfk_3_43) (hfk_3_44) hln_3 hrq_3 (lv_sub hl [0, 1, 2, 3, 4] rfl) hS (hD.sub (ws' := [(h0, .inr (13, z_3)), (qf31, .inl (cf31, 800, .inl f31)), (qf32, .inl (cf32, 800, .inl f32)), (qf33, .inl (cf33, 800, .inl f33)), (qf5, .inl (cf5, 3002, .inl f5)), (qf6, .inl (cf6, 3002, .inl f6)), (qf2, .inl (cf2, 3000, .inl f2)), (qf25, .inl (cf25, 400, .inl f25)), (qf35, .inl (cf35, 800, .inl g35_86)), (qf34, .inl (cf34, 800, .inl f34)), (qf29, .inl (cf29, 800, .inl f29)), (qf30, .inl (cf30, 800, .inl f30)), (qf37, .inl (cf37, 800, .inl f37)), (qf36, .inl (cf36, 800, .inl f36)), (qf40, .inl (cf40, 1500, .inl f40)), (qf41, .inl (cf41, 1500, .inl f41)), (qf42, .inl (cf42, 1500, .inl f42)), (qf44, .inl (cf44, 1500, .inl g44_86)), (qf43, .inl (cf43, 1500, .inl f43))]) [15, 0, 1, 2, 17, 16, 18, 3, 4, 5, 6, 7, 8, 9, 10, 11, 12, 13, 14] (by decide) rfl) (hP.sub (ws' := [(h0, .inr (13, z_3)), (qf31, .inl (cf31, 800, .inl f31)), (qf32, .inl (cf32, 800, .inl f32)), (qf33, .inl (cf33, 800, .inl f33)), (qf5, .inl (cf5, 3002, .inl f5)), (qf6, .inl (cf6, 3002, .inl f6)), (qf2, .inl (cf2, 3000, .inl f2)), (qf25, .inl (cf25, 400, .inl f25)), (qf35, .inl (cf35, 800, .inl g35_86)), (qf34, .inl (cf34, 800, .inl f34)), (qf29, .inl (cf29, 800, .inl f29)), (qf30, .inl (cf30, 800, .inl f30)), (qf37, .inl (cf37, 800, .inl f37)), (qf36, .inl (cf36, 800, .inl f36)), (qf40, .inl (cf40, 1500, .inl f40)), (qf41, .inl (cf41, 1500, .inl f41)), (qf42, .inl (cf42, 1500, .inl f42)), (qf44, .inl (cf44, 1500, .inl g44_86)), (qf43, .inl (cf43, 1500, .inl f43))]) [15, 0, 1, 2, 17, 16, 18, 3, 4, 5, 6, 7, 8, 9, 10, 11, 12, 13, 14] rfl) hsp
      · rw [if_neg c_16] at hsp
        refine lv_goto (tgt := 115) hx hb dX13_memberHead_89 (by decide) ?_
        refine lv_iinc (v := (l4_86 + 1)) (lv' := [(4, .int (l4_86 + 1)), (0, .ref h0), (1, .int l1_86), (2, .int l2_86), (3, .int l3_86)]) hx hb dX13_memberHead_115 hl (k := 4) rfl rfl (by decide) rfl (fun ls hl => ?_)
        refine lv_goto (tgt := 35) hx hb dX13_memberHead_118 (by decide) ?_
        exact ih_35 H locs ls z86 l1_86 l2_86 l3_86 (l4_86 + 1) g35_86 g44_86 x10_86 x9_86 (hfh_86_2) (hfh_86_5) (hfh_86_6) (hfh_86_9) (hfh_86_10) (hfh_86_24) (hfh_86_25) (hfh_86_29) (hfh_86_30) (hfh_86_31) (hfh_86_32) (hfh_86_33) (hfh_86_34) (hfh_86_35) (hfh_86_36) (hfh_86_37) (hfh_86_40) (hfh_86_41) (hfh_86_42) (hfh_86_43) (hfh_86_44) hlh_86 hrh_86 (lv_sub hl [0, 4, 3, 1, 2] rfl) hS (hD.sub (ws' := [(h0, .inr (13, z86)), (qf31, .inl (cf31, 800, .inl f31)), (qf32, .inl (cf32, 800, .inl f32)), (qf33, .inl (cf33, 800, .inl f33)), (qf5, .inl (cf5, 3002, .inl f5)), (qf6, .inl (cf6, 3002, .inl f6)), (qf2, .inl (cf2, 3000, .inl f2)), (qf25, .inl (cf25, 400, .inl f25)), (qf35, .inl (cf35, 800, .inl g35_86)), (qf34, .inl (cf34, 800, .inl f34)), (qf29, .inl (cf29, 800, .inl f29)), (qf30, .inl (cf30, 800, .inl f30)), (qf37, .inl (cf37, 800, .inl f37)), (qf36, .inl (cf36, 800, .inl f36)), (qf40, .inl (cf40, 1500, .inl f40)), (qf41, .inl (cf41, 1500, .inl f41)), (qf42, .inl (cf42, 1500, .inl f42)), (qf44, .inl (cf44, 1500, .inl g44_86)), (qf43, .inl (cf43, 1500, .inl f43))]) [0, 1, 2, 3, 4, 5, 6, 7, 8, 9, 10, 11, 12, 13, 14, 15, 16, 17, 18] (by decide) rfl) (hP.sub (ws' := [(h0, .inr (13, z86)), (qf31, .inl (cf31, 800, .inl f31)), (qf32, .inl (cf32, 800, .inl f32)), (qf33, .inl (cf33, 800, .inl f33)), (qf5, .inl (cf5, 3002, .inl f5)), (qf6, .inl (cf6, 3002, .inl f6)), (qf2, .inl (cf2, 3000, .inl f2)), (qf25, .inl (cf25, 400, .inl f25)), (qf35, .inl (cf35, 800, .inl g35_86)), (qf34, .inl (cf34, 800, .inl f34)), (qf29, .inl (cf29, 800, .inl f29)), (qf30, .inl (cf30, 800, .inl f30)), (qf37, .inl (cf37, 800, .inl f37)), (qf36, .inl (cf36, 800, .inl f36)), (qf40, .inl (cf40, 1500, .inl f40)), (qf41, .inl (cf41, 1500, .inl f41)), (qf42, .inl (cf42, 1500, .inl f42)), (qf44, .inl (cf44, 1500, .inl g44_86)), (qf43, .inl (cf43, 1500, .inl f43))]) [0, 1, 2, 3, 4, 5, 6, 7, 8, 9, 10, 11, 12, 13, 14, 15, 16, 17, 18] rfl) hsp
    intro hj_86
    refine jn_use (α := Heap × List Loc × Array Slot × List Value × Int32 × Int32 × Int32 × Int32 × Int32 × (Nat → Int32) × (Nat → Int32) × Int32 × Int32) (fun x9 => x9.1) (fun x9 => x9.2.1) (fun x9 => F0 m 72 x9.2.2.1 [.int (x9.2.2.2.2.2.2.2.2.1)]) (fun x9 => match x9 with | (H, locs, ls, z72, l1_72, l2_72, l3_72, l4_72, s0_72, g35_72, g44_72, x10_72, x9_72) => lv_has ls 7 [(0, .ref h0), (1, .int l1_72), (2, .int l2_72), (3, .int l3_72), (4, .int l4_72)] ∧ va_S A s.heap H locs ∧ va_D A [(h0, .inr (13, z72)), (qf31, .inl (cf31, 800, .inl f31)), (qf32, .inl (cf32, 800, .inl f32)), (qf33, .inl (cf33, 800, .inl f33)), (qf5, .inl (cf5, 3002, .inl f5)), (qf6, .inl (cf6, 3002, .inl f6)), (qf2, .inl (cf2, 3000, .inl f2)), (qf25, .inl (cf25, 400, .inl f25)), (qf35, .inl (cf35, 800, .inl g35_72)), (qf34, .inl (cf34, 800, .inl f34)), (qf29, .inl (cf29, 800, .inl f29)), (qf30, .inl (cf30, 800, .inl f30)), (qf37, .inl (cf37, 800, .inl f37)), (qf36, .inl (cf36, 800, .inl f36)), (qf40, .inl (cf40, 1500, .inl f40)), (qf41, .inl (cf41, 1500, .inl f41)), (qf42, .inl (cf42, 1500, .inl f42)), (qf44, .inl (cf44, 1500, .inl g44_72)), (qf43, .inl (cf43, 1500, .inl f43))] ∧ va_P (dC, dI) vwCl [(h0, .inr (13, z72)), (qf31, .inl (cf31, 800, .inl f31)), (qf32, .inl (cf32, 800, .inl f32)), (qf33, .inl (cf33, 800, .inl f33)), (qf5, .inl (cf5, 3002, .inl f5)), (qf6, .inl (cf6, 3002, .inl f6)), (qf2, .inl (cf2, 3000, .inl f2)), (qf25, .inl (cf25, 400, .inl f25)), (qf35, .inl (cf35, 800, .inl g35_72)), (qf34, .inl (cf34, 800, .inl f34)), (qf29, .inl (cf29, 800, .inl f29)), (qf30, .inl (cf30, 800, .inl f30)), (qf37, .inl (cf37, 800, .inl f37)), (qf36, .inl (cf36, 800, .inl f36)), (qf40, .inl (cf40, 1500, .inl f40)), (qf41, .inl (cf41, 1500, .inl f41)), (qf42, .inl (cf42, 1500, .inl f42)), (qf44, .inl (cf44, 1500, .inl g44_72)), (qf43, .inl (cf43, 1500, .inl f43))] H ∧ z72[2]? = some (.ref qf2) ∧ z72[5]? = some (.ref qf5) ∧ z72[6]? = some (.ref qf6) ∧ z72[9]? = some (.int x9_72) ∧ z72[10]? = some (.int x10_72) ∧ z72[24]? = some (.int v24) ∧ z72[25]? = some (.ref qf25) ∧ z72[29]? = some (.ref qf29) ∧ z72[30]? = some (.ref qf30) ∧ z72[31]? = some (.ref qf31) ∧ z72[32]? = some (.ref qf32) ∧ z72[33]? = some (.ref qf33) ∧ z72[34]? = some (.ref qf34) ∧ z72[35]? = some (.ref qf35) ∧ z72[36]? = some (.ref qf36) ∧ z72[37]? = some (.ref qf37) ∧ z72[40]? = some (.ref qf40) ∧ z72[41]? = some (.ref qf41) ∧ z72[42]? = some (.ref qf42) ∧ z72[43]? = some (.ref qf43) ∧ z72[44]? = some (.ref qf44) ∧ z72.length = 155 ∧ (∀ j : Nat, j ≠ 10 → j ≠ 9 → z72[j]? = zs[j]?) ∧ jn_vm_memberHead_72 nf a1 v9 v10 v24 f31 f32 f33 f5 f6 f2 f25 f35 f34 f29 f30 f37 f36 f40 f41 f42 f44 f43 nS477 fS477 (lp_vm_memberHead_35 nf n_35 a1 v9 v10 v24 f31 f32 f33 f5 f6 f2 f25 f35 f34 f29 f30 f37 f36 f40 f41 f42 f44 f43 nS477 fS477) l1_72 l2_72 l3_72 l4_72 s0_72 g35_72 g44_72 x10_72 x9_72 = some (o35, o44, w10, w9)) ?_ ?_
    · intro x9 hJ9
      obtain ⟨H, locs, ls, z72, l1_72, l2_72, l3_72, l4_72, s0_72, g35_72, g44_72, x10_72, x9_72⟩ := x9
      obtain ⟨hl, hS, hD, hP, hfh_72_2, hfh_72_5, hfh_72_6, hfh_72_9, hfh_72_10, hfh_72_24, hfh_72_25, hfh_72_29, hfh_72_30, hfh_72_31, hfh_72_32, hfh_72_33, hfh_72_34, hfh_72_35, hfh_72_36, hfh_72_37, hfh_72_40, hfh_72_41, hfh_72_42, hfh_72_43, hfh_72_44, hlh_72, hrh_72, hsp⟩ := hJ9
      replace hl : lv_has ls 7 [(0, .ref h0), (1, .int l1_72), (2, .int l2_72), (3, .int l3_72), (4, .int l4_72)] := hl
      replace hS : va_S A s.heap H locs := hS
      replace hD : va_D A [(h0, .inr (13, z72)), (qf31, .inl (cf31, 800, .inl f31)), (qf32, .inl (cf32, 800, .inl f32)), (qf33, .inl (cf33, 800, .inl f33)), (qf5, .inl (cf5, 3002, .inl f5)), (qf6, .inl (cf6, 3002, .inl f6)), (qf2, .inl (cf2, 3000, .inl f2)), (qf25, .inl (cf25, 400, .inl f25)), (qf35, .inl (cf35, 800, .inl g35_72)), (qf34, .inl (cf34, 800, .inl f34)), (qf29, .inl (cf29, 800, .inl f29)), (qf30, .inl (cf30, 800, .inl f30)), (qf37, .inl (cf37, 800, .inl f37)), (qf36, .inl (cf36, 800, .inl f36)), (qf40, .inl (cf40, 1500, .inl f40)), (qf41, .inl (cf41, 1500, .inl f41)), (qf42, .inl (cf42, 1500, .inl f42)), (qf44, .inl (cf44, 1500, .inl g44_72)), (qf43, .inl (cf43, 1500, .inl f43))] := hD
      replace hP : va_P (dC, dI) vwCl [(h0, .inr (13, z72)), (qf31, .inl (cf31, 800, .inl f31)), (qf32, .inl (cf32, 800, .inl f32)), (qf33, .inl (cf33, 800, .inl f33)), (qf5, .inl (cf5, 3002, .inl f5)), (qf6, .inl (cf6, 3002, .inl f6)), (qf2, .inl (cf2, 3000, .inl f2)), (qf25, .inl (cf25, 400, .inl f25)), (qf35, .inl (cf35, 800, .inl g35_72)), (qf34, .inl (cf34, 800, .inl f34)), (qf29, .inl (cf29, 800, .inl f29)), (qf30, .inl (cf30, 800, .inl f30)), (qf37, .inl (cf37, 800, .inl f37)), (qf36, .inl (cf36, 800, .inl f36)), (qf40, .inl (cf40, 1500, .inl f40)), (qf41, .inl (cf41, 1500, .inl f41)), (qf42, .inl (cf42, 1500, .inl f42)), (qf44, .inl (cf44, 1500, .inl g44_72)), (qf43, .inl (cf43, 1500, .inl f43))] H := hP
      replace hsp : jn_vm_memberHead_72 nf a1 v9 v10 v24 f31 f32 f33 f5 f6 f2 f25 f35 f34 f29 f30 f37 f36 f40 f41 f42 f44 f43 nS477 fS477 (lp_vm_memberHead_35 nf n_35 a1 v9 v10 v24 f31 f32 f33 f5 f6 f2 f25 f35 f34 f29 f30 f37 f36 f40 f41 f42 f44 f43 nS477 fS477) l1_72 l2_72 l3_72 l4_72 s0_72 g35_72 g44_72 x10_72 x9_72 = some (o35, o44, w10, w9) := hsp
      show W _ _ _ _ _ _ _ _ _ _ H locs _ _ _ (F0 m 72 ls [.int s0_72])
      unfold jn_vm_memberHead_72 at hsp
      try dsimp only at hsp
      refine lv_aload_n hx hb dX13_memberHead_72 rfl (lv_at hl 0 rfl) ?_
      refine va_get (D := (dC, dI)) (ci := 13) (v := .ref qf30) (C := RX13) (T := TX13) (N := 155) hx hb hts uV_h9_X13 hown hK hP 0 rfl rfl 30 (by decide) (hts (.fieldLink RX13 74 "ClassMillModel" "memberSort" "[I") mw_h9_123) (fun _ h9 => h9) hfh_72_30 dX13_memberHead_73 ?_
      refine lv_iload_n hx hb dX13_memberHead_76 rfl (lv_at hl 1 rfl) ?_
      obtain ⟨hi_14, hsp⟩ := ox_in hsp
      refine va_iald hx hb hK hP 11 10 rfl rfl (i := l1_72) hi_14 dX13_memberHead_77 ?_
      refine lv_if_le (tgt := 85) hx hb dX13_memberHead_78 (by decide) (fun c_15 => ?_) (fun c_15 => ?_)
      · rw [if_pos c_15] at hsp
        refine lv_iconst (v := 0) hx hb dX13_memberHead_85 (by decide) ?_
        exact hj_86 (H, locs, ls, z72, l1_72, l2_72, l3_72, l4_72, 0, s0_72, g35_72, g44_72, x10_72, x9_72) ⟨lv_sub hl [0, 1, 2, 3, 4] rfl, hS, hD.sub (ws' := [(h0, .inr (13, z72)), (qf31, .inl (cf31, 800, .inl f31)), (qf32, .inl (cf32, 800, .inl f32)), (qf33, .inl (cf33, 800, .inl f33)), (qf5, .inl (cf5, 3002, .inl f5)), (qf6, .inl (cf6, 3002, .inl f6)), (qf2, .inl (cf2, 3000, .inl f2)), (qf25, .inl (cf25, 400, .inl f25)), (qf35, .inl (cf35, 800, .inl g35_72)), (qf34, .inl (cf34, 800, .inl f34)), (qf29, .inl (cf29, 800, .inl f29)), (qf30, .inl (cf30, 800, .inl f30)), (qf37, .inl (cf37, 800, .inl f37)), (qf36, .inl (cf36, 800, .inl f36)), (qf40, .inl (cf40, 1500, .inl f40)), (qf41, .inl (cf41, 1500, .inl f41)), (qf42, .inl (cf42, 1500, .inl f42)), (qf44, .inl (cf44, 1500, .inl g44_72)), (qf43, .inl (cf43, 1500, .inl f43))]) [0, 1, 2, 3, 4, 5, 6, 7, 8, 9, 10, 11, 12, 13, 14, 15, 16, 17, 18] (by decide) rfl, hP.sub (ws' := [(h0, .inr (13, z72)), (qf31, .inl (cf31, 800, .inl f31)), (qf32, .inl (cf32, 800, .inl f32)), (qf33, .inl (cf33, 800, .inl f33)), (qf5, .inl (cf5, 3002, .inl f5)), (qf6, .inl (cf6, 3002, .inl f6)), (qf2, .inl (cf2, 3000, .inl f2)), (qf25, .inl (cf25, 400, .inl f25)), (qf35, .inl (cf35, 800, .inl g35_72)), (qf34, .inl (cf34, 800, .inl f34)), (qf29, .inl (cf29, 800, .inl f29)), (qf30, .inl (cf30, 800, .inl f30)), (qf37, .inl (cf37, 800, .inl f37)), (qf36, .inl (cf36, 800, .inl f36)), (qf40, .inl (cf40, 1500, .inl f40)), (qf41, .inl (cf41, 1500, .inl f41)), (qf42, .inl (cf42, 1500, .inl f42)), (qf44, .inl (cf44, 1500, .inl g44_72)), (qf43, .inl (cf43, 1500, .inl f43))]) [0, 1, 2, 3, 4, 5, 6, 7, 8, 9, 10, 11, 12, 13, 14, 15, 16, 17, 18] rfl, hfh_72_2, hfh_72_5, hfh_72_6, hfh_72_9, hfh_72_10, hfh_72_24, hfh_72_25, hfh_72_29, hfh_72_30, hfh_72_31, hfh_72_32, hfh_72_33, hfh_72_34, hfh_72_35, hfh_72_36, hfh_72_37, hfh_72_40, hfh_72_41, hfh_72_42, hfh_72_43, hfh_72_44, hlh_72, hrh_72, hsp⟩
      · rw [if_neg c_15] at hsp
        refine lv_iconst (v := 1) hx hb dX13_memberHead_81 (by decide) ?_
        refine lv_goto (tgt := 86) hx hb dX13_memberHead_82 (by decide) ?_
        exact hj_86 (H, locs, ls, z72, l1_72, l2_72, l3_72, l4_72, 1, s0_72, g35_72, g44_72, x10_72, x9_72) ⟨lv_sub hl [0, 1, 2, 3, 4] rfl, hS, hD.sub (ws' := [(h0, .inr (13, z72)), (qf31, .inl (cf31, 800, .inl f31)), (qf32, .inl (cf32, 800, .inl f32)), (qf33, .inl (cf33, 800, .inl f33)), (qf5, .inl (cf5, 3002, .inl f5)), (qf6, .inl (cf6, 3002, .inl f6)), (qf2, .inl (cf2, 3000, .inl f2)), (qf25, .inl (cf25, 400, .inl f25)), (qf35, .inl (cf35, 800, .inl g35_72)), (qf34, .inl (cf34, 800, .inl f34)), (qf29, .inl (cf29, 800, .inl f29)), (qf30, .inl (cf30, 800, .inl f30)), (qf37, .inl (cf37, 800, .inl f37)), (qf36, .inl (cf36, 800, .inl f36)), (qf40, .inl (cf40, 1500, .inl f40)), (qf41, .inl (cf41, 1500, .inl f41)), (qf42, .inl (cf42, 1500, .inl f42)), (qf44, .inl (cf44, 1500, .inl g44_72)), (qf43, .inl (cf43, 1500, .inl f43))]) [0, 1, 2, 3, 4, 5, 6, 7, 8, 9, 10, 11, 12, 13, 14, 15, 16, 17, 18] (by decide) rfl, hP.sub (ws' := [(h0, .inr (13, z72)), (qf31, .inl (cf31, 800, .inl f31)), (qf32, .inl (cf32, 800, .inl f32)), (qf33, .inl (cf33, 800, .inl f33)), (qf5, .inl (cf5, 3002, .inl f5)), (qf6, .inl (cf6, 3002, .inl f6)), (qf2, .inl (cf2, 3000, .inl f2)), (qf25, .inl (cf25, 400, .inl f25)), (qf35, .inl (cf35, 800, .inl g35_72)), (qf34, .inl (cf34, 800, .inl f34)), (qf29, .inl (cf29, 800, .inl f29)), (qf30, .inl (cf30, 800, .inl f30)), (qf37, .inl (cf37, 800, .inl f37)), (qf36, .inl (cf36, 800, .inl f36)), (qf40, .inl (cf40, 1500, .inl f40)), (qf41, .inl (cf41, 1500, .inl f41)), (qf42, .inl (cf42, 1500, .inl f42)), (qf44, .inl (cf44, 1500, .inl g44_72)), (qf43, .inl (cf43, 1500, .inl f43))]) [0, 1, 2, 3, 4, 5, 6, 7, 8, 9, 10, 11, 12, 13, 14, 15, 16, 17, 18] rfl, hfh_72_2, hfh_72_5, hfh_72_6, hfh_72_9, hfh_72_10, hfh_72_24, hfh_72_25, hfh_72_29, hfh_72_30, hfh_72_31, hfh_72_32, hfh_72_33, hfh_72_34, hfh_72_35, hfh_72_36, hfh_72_37, hfh_72_40, hfh_72_41, hfh_72_42, hfh_72_43, hfh_72_44, hlh_72, hrh_72, hsp⟩
    intro hj_72
    refine lv_iload hx hb dX13_memberHead_35 (lv_at hl 0 rfl) ?_
    refine lv_iload_n hx hb dX13_memberHead_37 rfl (lv_at hl 4 rfl) ?_
    refine lv_icmp_ge (tgt := 121) hx hb dX13_memberHead_38 (by decide) (fun c_6 => ?_) (fun c_6 => ?_)
    · rw [if_pos c_6] at hsp
      refine lv_iload_n hx hb dX13_memberHead_121 rfl (lv_at hl 2 rfl) ?_
      refine lv_bipush (v := 12) hx hb dX13_memberHead_122 (by decide) ?_
      refine lv_icmp_ne (tgt := 139) hx hb dX13_memberHead_124 (by decide) (fun c_7 => ?_) (fun c_7 => ?_)
      · rw [if_neg c_7] at hsp
        exact hj_139 (H, locs, ls, z35, l1_35, l3_35, g35_35, g44_35, x10_35, x9_35) ⟨lv_sub hl [3, 4, 1] rfl, hS, hD.sub (ws' := [(h0, .inr (13, z35)), (qf31, .inl (cf31, 800, .inl f31)), (qf32, .inl (cf32, 800, .inl f32)), (qf33, .inl (cf33, 800, .inl f33)), (qf5, .inl (cf5, 3002, .inl f5)), (qf6, .inl (cf6, 3002, .inl f6)), (qf2, .inl (cf2, 3000, .inl f2)), (qf25, .inl (cf25, 400, .inl f25)), (qf35, .inl (cf35, 800, .inl g35_35)), (qf34, .inl (cf34, 800, .inl f34)), (qf29, .inl (cf29, 800, .inl f29)), (qf30, .inl (cf30, 800, .inl f30)), (qf37, .inl (cf37, 800, .inl f37)), (qf36, .inl (cf36, 800, .inl f36)), (qf40, .inl (cf40, 1500, .inl f40)), (qf41, .inl (cf41, 1500, .inl f41)), (qf42, .inl (cf42, 1500, .inl f42)), (qf44, .inl (cf44, 1500, .inl g44_35)), (qf43, .inl (cf43, 1500, .inl f43))]) [0, 1, 2, 3, 4, 5, 6, 7, 8, 9, 10, 11, 12, 13, 14, 15, 16, 17, 18] (by decide) rfl, hP.sub (ws' := [(h0, .inr (13, z35)), (qf31, .inl (cf31, 800, .inl f31)), (qf32, .inl (cf32, 800, .inl f32)), (qf33, .inl (cf33, 800, .inl f33)), (qf5, .inl (cf5, 3002, .inl f5)), (qf6, .inl (cf6, 3002, .inl f6)), (qf2, .inl (cf2, 3000, .inl f2)), (qf25, .inl (cf25, 400, .inl f25)), (qf35, .inl (cf35, 800, .inl g35_35)), (qf34, .inl (cf34, 800, .inl f34)), (qf29, .inl (cf29, 800, .inl f29)), (qf30, .inl (cf30, 800, .inl f30)), (qf37, .inl (cf37, 800, .inl f37)), (qf36, .inl (cf36, 800, .inl f36)), (qf40, .inl (cf40, 1500, .inl f40)), (qf41, .inl (cf41, 1500, .inl f41)), (qf42, .inl (cf42, 1500, .inl f42)), (qf44, .inl (cf44, 1500, .inl g44_35)), (qf43, .inl (cf43, 1500, .inl f43))]) [0, 1, 2, 3, 4, 5, 6, 7, 8, 9, 10, 11, 12, 13, 14, 15, 16, 17, 18] rfl, hfh_35_2, hfh_35_5, hfh_35_6, hfh_35_9, hfh_35_10, hfh_35_24, hfh_35_25, hfh_35_29, hfh_35_30, hfh_35_31, hfh_35_32, hfh_35_33, hfh_35_34, hfh_35_35, hfh_35_36, hfh_35_37, hfh_35_40, hfh_35_41, hfh_35_42, hfh_35_43, hfh_35_44, hlh_35, hrh_35, hsp⟩
      · rw [if_pos c_7] at hsp
        refine lv_aload_n hx hb dX13_memberHead_127 rfl (lv_at hl 3 rfl) ?_
        refine lv_bipush (v := 11) hx hb dX13_memberHead_128 (by decide) ?_
        refine lv_aload_n hx hb dX13_memberHead_130 rfl (lv_at hl 3 rfl) ?_
        refine va_get (D := (dC, dI)) (ci := 13) (v := .ref qf34) (C := RX13) (T := TX13) (N := 155) hx hb hts uV_h9_X13 hown hK hP 0 rfl rfl 34 (by decide) (hts (.fieldLink RX13 86 "ClassMillModel" "memberName" "[I") mw_h9_118) (fun _ h9 => h9) hfh_35_34 dX13_memberHead_131 ?_
        refine lv_iload_n hx hb dX13_memberHead_134 rfl (lv_at hl 4 rfl) ?_
        obtain ⟨hi_8, hsp⟩ := ox_in hsp
        refine va_iald hx hb hK hP 9 8 rfl rfl (i := l1_35) hi_8 dX13_memberHead_135 ?_
        obtain ⟨⟨u2_0, u2_1⟩, hu_2, hsp⟩ := ox_bind hsp
        try dsimp only at hsp
        have hPc := hP.sub (ws' := [(h0, .inr (13, z35)), (qf5, .inl (cf5, 3002, .inl f5))]) [0, 4] rfl
        have hDc := hD.sub (ws' := [(h0, .inr (13, z35)), (qf5, .inl (cf5, 3002, .inl f5))]) [0, 4] (by decide) rfl
        have hKc := hK.sub (tys' := [(cf5, .int)]) [3] rfl
        have hFc := va_free (wc := [(h0, .inr (13, z35)), (qf5, .inl (cf5, 3002, .inl f5))]) hD hS hA [0, 4] rfl
        refine va_callv (va_runV (As := [.int 11, .int (f34 (l1_35 : Int32).toNatClampNeg)]) (rest := []) ⟨hx, hb, hml, hown, hts⟩ (tm_wrong l dC dI H.size h0 z35 11 ((f34 (l1_35 : Int32).toNatClampNeg)) qf5 x9_35 x10_35 cf5 f5 nf u2_0 u2_1 hlh_35 hfh_35_5 hfh_35_9 hfh_35_10 hu_2) (cwV 2 hts gv_h9_18 rfl rfl rfl (by decide +kernel) ⟨Nat.le_of_ble_eq_true rfl, Nat.le_of_ble_eq_true rfl⟩) ⟨fun a U g mk q => by obtain ⟨q0, q1, qP, qK, qD⟩ := q; exact ⟨q0, q1, qP, va_K.moved (u := U) (U := U.calling g mk a) (Vm.Alike.refl U.vm) qK, qD⟩, va_recv hKc hPc (ci := 13) (q0 := 0) rfl rfl, fun U hU hW => ⟨rfl, by rw [hU], by rw [hU]; exact hPc, va_K.moved hW.alike hKc, hDc.weaken (fun _ _ _ _ => trivial)⟩⟩ rfl rfl hl.1 rfl (lv_room (Nat.le_of_ble_eq_true rfl)) dX13_memberHead_136 ⟨Nat.le_of_ble_eq_true rfl, Nat.le_of_ble_eq_true rfl⟩) hS (fun q _ h => hFc q h) hFc ?_
        clear hS
        intro u t H1 locs ht hvm hw hB hz1 hk1 hS
        obtain ⟨z_2, rfl⟩ : ∃ z, z = u := ⟨_, rfl⟩
        obtain ⟨hP1, hK1, hD1⟩ := hB
        rw [ht] at hP1
        have hK1 := va_K.moved hvm.symm hK1
        try dsimp only at hw
        have hPD := va_join (wr := [(qf31, .inl (cf31, 800, .inl f31)), (qf32, .inl (cf32, 800, .inl f32)), (qf33, .inl (cf33, 800, .inl f33)), (qf6, .inl (cf6, 3002, .inl f6)), (qf2, .inl (cf2, 3000, .inl f2)), (qf25, .inl (cf25, 400, .inl f25)), (qf35, .inl (cf35, 800, .inl g35_35)), (qf34, .inl (cf34, 800, .inl f34)), (qf29, .inl (cf29, 800, .inl f29)), (qf30, .inl (cf30, 800, .inl f30)), (qf37, .inl (cf37, 800, .inl f37)), (qf36, .inl (cf36, 800, .inl f36)), (qf40, .inl (cf40, 1500, .inl f40)), (qf41, .inl (cf41, 1500, .inl f41)), (qf42, .inl (cf42, 1500, .inl f42)), (qf44, .inl (cf44, 1500, .inl g44_35)), (qf43, .inl (cf43, 1500, .inl f43))]) (w1 := [(h0, .inr (13, z_2)), (qf5, .inl (cf5, 3002, .inl f5))]) hP hD [0, 4] [1, 2, 3, 5, 6, 7, 8, 9, 10, 11, 12, 13, 14, 15, 16, 17, 18] rfl rfl (by decide) (by decide) hk1 hFc hP1 hD1
        clear hP hD
        obtain ⟨hP, hD⟩ := hPD
        replace hK := (hK.sub (tys' := [(cf31, .int), (cf32, .int), (cf33, .boolean), (cf6, .int), (cf2, .int), (cf25, .int), (cf35, .int), (cf34, .int), (cf29, .int), (cf30, .int), (cf37, .int), (cf36, .int), (cf40, .int), (cf41, .int), (cf42, .boolean), (cf44, .int), (cf43, .int)]) [0, 1, 2, 4, 5, 6, 7, 8, 9, 10, 11, 12, 13, 14, 15, 16, 17] rfl).app hK1
        clear hPc hDc hKc hFc hP1 hK1 hD1 hz1 hk1 ht hvm
        generalize H1 = H at hP hS ⊢
        replace hP : va_P (dC, dI) vwCl [(qf31, .inl (cf31, 800, .inl f31)), (qf32, .inl (cf32, 800, .inl f32)), (qf33, .inl (cf33, 800, .inl f33)), (qf6, .inl (cf6, 3002, .inl f6)), (qf2, .inl (cf2, 3000, .inl f2)), (qf25, .inl (cf25, 400, .inl f25)), (qf35, .inl (cf35, 800, .inl g35_35)), (qf34, .inl (cf34, 800, .inl f34)), (qf29, .inl (cf29, 800, .inl f29)), (qf30, .inl (cf30, 800, .inl f30)), (qf37, .inl (cf37, 800, .inl f37)), (qf36, .inl (cf36, 800, .inl f36)), (qf40, .inl (cf40, 1500, .inl f40)), (qf41, .inl (cf41, 1500, .inl f41)), (qf42, .inl (cf42, 1500, .inl f42)), (qf44, .inl (cf44, 1500, .inl g44_35)), (qf43, .inl (cf43, 1500, .inl f43)), (h0, .inr (13, z_2)), (qf5, .inl (cf5, 3002, .inl f5))] H := hP
        replace hD : va_D A [(qf31, .inl (cf31, 800, .inl f31)), (qf32, .inl (cf32, 800, .inl f32)), (qf33, .inl (cf33, 800, .inl f33)), (qf6, .inl (cf6, 3002, .inl f6)), (qf2, .inl (cf2, 3000, .inl f2)), (qf25, .inl (cf25, 400, .inl f25)), (qf35, .inl (cf35, 800, .inl g35_35)), (qf34, .inl (cf34, 800, .inl f34)), (qf29, .inl (cf29, 800, .inl f29)), (qf30, .inl (cf30, 800, .inl f30)), (qf37, .inl (cf37, 800, .inl f37)), (qf36, .inl (cf36, 800, .inl f36)), (qf40, .inl (cf40, 1500, .inl f40)), (qf41, .inl (cf41, 1500, .inl f41)), (qf42, .inl (cf42, 1500, .inl f42)), (qf44, .inl (cf44, 1500, .inl g44_35)), (qf43, .inl (cf43, 1500, .inl f43)), (h0, .inr (13, z_2)), (qf5, .inl (cf5, 3002, .inl f5))] := hD
        replace hK : va_K (dC, dI) vwCl [(cf31, .int), (cf32, .int), (cf33, .boolean), (cf6, .int), (cf2, .int), (cf25, .int), (cf35, .int), (cf34, .int), (cf29, .int), (cf30, .int), (cf37, .int), (cf36, .int), (cf40, .int), (cf41, .int), (cf42, .boolean), (cf44, .int), (cf43, .int), (cf5, .int)] s := hK
        obtain ⟨hwa_2, hln_2, hre_2, hch_2_10, hch_2_9⟩ := hw
        have hfk_2_2 : z_2[2]? = some (.ref qf2) := (hre_2 2 (by decide) (by decide)).trans (hfh_35_2)
        have hfk_2_5 : z_2[5]? = some (.ref qf5) := (hre_2 5 (by decide) (by decide)).trans (hfh_35_5)
        have hfk_2_6 : z_2[6]? = some (.ref qf6) := (hre_2 6 (by decide) (by decide)).trans (hfh_35_6)
        have hfk_2_24 : z_2[24]? = some (.int v24) := (hre_2 24 (by decide) (by decide)).trans (hfh_35_24)
        have hfk_2_25 : z_2[25]? = some (.ref qf25) := (hre_2 25 (by decide) (by decide)).trans (hfh_35_25)
        have hfk_2_29 : z_2[29]? = some (.ref qf29) := (hre_2 29 (by decide) (by decide)).trans (hfh_35_29)
        have hfk_2_30 : z_2[30]? = some (.ref qf30) := (hre_2 30 (by decide) (by decide)).trans (hfh_35_30)
        have hfk_2_31 : z_2[31]? = some (.ref qf31) := (hre_2 31 (by decide) (by decide)).trans (hfh_35_31)
        have hfk_2_32 : z_2[32]? = some (.ref qf32) := (hre_2 32 (by decide) (by decide)).trans (hfh_35_32)
        have hfk_2_33 : z_2[33]? = some (.ref qf33) := (hre_2 33 (by decide) (by decide)).trans (hfh_35_33)
        have hfk_2_34 : z_2[34]? = some (.ref qf34) := (hre_2 34 (by decide) (by decide)).trans (hfh_35_34)
        have hfk_2_35 : z_2[35]? = some (.ref qf35) := (hre_2 35 (by decide) (by decide)).trans (hfh_35_35)
        have hfk_2_36 : z_2[36]? = some (.ref qf36) := (hre_2 36 (by decide) (by decide)).trans (hfh_35_36)
        have hfk_2_37 : z_2[37]? = some (.ref qf37) := (hre_2 37 (by decide) (by decide)).trans (hfh_35_37)
        have hfk_2_40 : z_2[40]? = some (.ref qf40) := (hre_2 40 (by decide) (by decide)).trans (hfh_35_40)
        have hfk_2_41 : z_2[41]? = some (.ref qf41) := (hre_2 41 (by decide) (by decide)).trans (hfh_35_41)
        have hfk_2_42 : z_2[42]? = some (.ref qf42) := (hre_2 42 (by decide) (by decide)).trans (hfh_35_42)
        have hfk_2_43 : z_2[43]? = some (.ref qf43) := (hre_2 43 (by decide) (by decide)).trans (hfh_35_43)
        have hfk_2_44 : z_2[44]? = some (.ref qf44) := (hre_2 44 (by decide) (by decide)).trans (hfh_35_44)
        have hrq_2 : ∀ j : Nat, j ≠ 10 → j ≠ 9 → z_2[j]? = zs[j]? := fun j g10 g9 => (hre_2 j g10 g9).trans (hrh_35 j g10 g9)
        exact hj_139 (H, locs, ls, z_2, l1_35, l3_35, g35_35, g44_35, u2_0, u2_1) ⟨lv_sub hl [3, 4, 1] rfl, hS, hD.sub (ws' := [(h0, .inr (13, z_2)), (qf31, .inl (cf31, 800, .inl f31)), (qf32, .inl (cf32, 800, .inl f32)), (qf33, .inl (cf33, 800, .inl f33)), (qf5, .inl (cf5, 3002, .inl f5)), (qf6, .inl (cf6, 3002, .inl f6)), (qf2, .inl (cf2, 3000, .inl f2)), (qf25, .inl (cf25, 400, .inl f25)), (qf35, .inl (cf35, 800, .inl g35_35)), (qf34, .inl (cf34, 800, .inl f34)), (qf29, .inl (cf29, 800, .inl f29)), (qf30, .inl (cf30, 800, .inl f30)), (qf37, .inl (cf37, 800, .inl f37)), (qf36, .inl (cf36, 800, .inl f36)), (qf40, .inl (cf40, 1500, .inl f40)), (qf41, .inl (cf41, 1500, .inl f41)), (qf42, .inl (cf42, 1500, .inl f42)), (qf44, .inl (cf44, 1500, .inl g44_35)), (qf43, .inl (cf43, 1500, .inl f43))]) [17, 0, 1, 2, 18, 3, 4, 5, 6, 7, 8, 9, 10, 11, 12, 13, 14, 15, 16] (by decide) rfl, hP.sub (ws' := [(h0, .inr (13, z_2)), (qf31, .inl (cf31, 800, .inl f31)), (qf32, .inl (cf32, 800, .inl f32)), (qf33, .inl (cf33, 800, .inl f33)), (qf5, .inl (cf5, 3002, .inl f5)), (qf6, .inl (cf6, 3002, .inl f6)), (qf2, .inl (cf2, 3000, .inl f2)), (qf25, .inl (cf25, 400, .inl f25)), (qf35, .inl (cf35, 800, .inl g35_35)), (qf34, .inl (cf34, 800, .inl f34)), (qf29, .inl (cf29, 800, .inl f29)), (qf30, .inl (cf30, 800, .inl f30)), (qf37, .inl (cf37, 800, .inl f37)), (qf36, .inl (cf36, 800, .inl f36)), (qf40, .inl (cf40, 1500, .inl f40)), (qf41, .inl (cf41, 1500, .inl f41)), (qf42, .inl (cf42, 1500, .inl f42)), (qf44, .inl (cf44, 1500, .inl g44_35)), (qf43, .inl (cf43, 1500, .inl f43))]) [17, 0, 1, 2, 18, 3, 4, 5, 6, 7, 8, 9, 10, 11, 12, 13, 14, 15, 16] rfl, hfk_2_2, hfk_2_5, hfk_2_6, hch_2_9, hch_2_10, hfk_2_24, hfk_2_25, hfk_2_29, hfk_2_30, hfk_2_31, hfk_2_32, hfk_2_33, hfk_2_34, hfk_2_35, hfk_2_36, hfk_2_37, hfk_2_40, hfk_2_41, hfk_2_42, hfk_2_43, hfk_2_44, hln_2, hrq_2, hsp⟩
    · rw [if_neg c_6] at hsp
      refine lv_aload_n hx hb dX13_memberHead_41 rfl (lv_at hl 3 rfl) ?_
      refine va_get (D := (dC, dI)) (ci := 13) (v := .ref qf29) (C := RX13) (T := TX13) (N := 155) hx hb hts uV_h9_X13 hown hK hP 0 rfl rfl 29 (by decide) (hts (.fieldLink RX13 71 "ClassMillModel" "memberClass" "[I") mw_h9_124) (fun _ h9 => h9) hfh_35_29 dX13_memberHead_42 ?_
      refine lv_iload hx hb dX13_memberHead_45 (lv_at hl 0 rfl) ?_
      obtain ⟨hi_9, hsp⟩ := ox_in hsp
      refine va_iald hx hb hK hP 10 9 rfl rfl (i := l4_35) hi_9 dX13_memberHead_47 ?_
      refine lv_aload_n hx hb dX13_memberHead_48 rfl (lv_at hl 3 rfl) ?_
      refine va_get (D := (dC, dI)) (ci := 13) (v := .ref qf29) (C := RX13) (T := TX13) (N := 155) hx hb hts uV_h9_X13 hown hK hP 0 rfl rfl 29 (by decide) (hts (.fieldLink RX13 71 "ClassMillModel" "memberClass" "[I") mw_h9_124) (fun _ h9 => h9) hfh_35_29 dX13_memberHead_49 ?_
      refine lv_iload_n hx hb dX13_memberHead_52 rfl (lv_at hl 4 rfl) ?_
      obtain ⟨hi_10, hsp⟩ := ox_in hsp
      refine va_iald hx hb hK hP 10 9 rfl rfl (i := l1_35) hi_10 dX13_memberHead_53 ?_
      refine lv_icmp_ne (tgt := 115) hx hb dX13_memberHead_54 (by decide) (fun c_11 => ?_) (fun c_11 => ?_)
      · rw [if_neg c_11] at hsp
        refine lv_iinc (v := (l4_35 + 1)) (lv' := [(4, .int (l4_35 + 1)), (3, .int l3_35), (2, .int l2_35), (0, .ref h0), (1, .int l1_35)]) hx hb dX13_memberHead_115 hl (k := 0) rfl rfl (by decide) rfl (fun ls hl => ?_)
        refine lv_goto (tgt := 35) hx hb dX13_memberHead_118 (by decide) ?_
        exact ih_35 H locs ls z35 l1_35 l2_35 l3_35 (l4_35 + 1) g35_35 g44_35 x10_35 x9_35 (hfh_35_2) (hfh_35_5) (hfh_35_6) (hfh_35_9) (hfh_35_10) (hfh_35_24) (hfh_35_25) (hfh_35_29) (hfh_35_30) (hfh_35_31) (hfh_35_32) (hfh_35_33) (hfh_35_34) (hfh_35_35) (hfh_35_36) (hfh_35_37) (hfh_35_40) (hfh_35_41) (hfh_35_42) (hfh_35_43) (hfh_35_44) hlh_35 hrh_35 (lv_sub hl [0, 1, 2, 3, 4] rfl) hS (hD.sub (ws' := [(h0, .inr (13, z35)), (qf31, .inl (cf31, 800, .inl f31)), (qf32, .inl (cf32, 800, .inl f32)), (qf33, .inl (cf33, 800, .inl f33)), (qf5, .inl (cf5, 3002, .inl f5)), (qf6, .inl (cf6, 3002, .inl f6)), (qf2, .inl (cf2, 3000, .inl f2)), (qf25, .inl (cf25, 400, .inl f25)), (qf35, .inl (cf35, 800, .inl g35_35)), (qf34, .inl (cf34, 800, .inl f34)), (qf29, .inl (cf29, 800, .inl f29)), (qf30, .inl (cf30, 800, .inl f30)), (qf37, .inl (cf37, 800, .inl f37)), (qf36, .inl (cf36, 800, .inl f36)), (qf40, .inl (cf40, 1500, .inl f40)), (qf41, .inl (cf41, 1500, .inl f41)), (qf42, .inl (cf42, 1500, .inl f42)), (qf44, .inl (cf44, 1500, .inl g44_35)), (qf43, .inl (cf43, 1500, .inl f43))]) [0, 1, 2, 3, 4, 5, 6, 7, 8, 9, 10, 11, 12, 13, 14, 15, 16, 17, 18] (by decide) rfl) (hP.sub (ws' := [(h0, .inr (13, z35)), (qf31, .inl (cf31, 800, .inl f31)), (qf32, .inl (cf32, 800, .inl f32)), (qf33, .inl (cf33, 800, .inl f33)), (qf5, .inl (cf5, 3002, .inl f5)), (qf6, .inl (cf6, 3002, .inl f6)), (qf2, .inl (cf2, 3000, .inl f2)), (qf25, .inl (cf25, 400, .inl f25)), (qf35, .inl (cf35, 800, .inl g35_35)), (qf34, .inl (cf34, 800, .inl f34)), (qf29, .inl (cf29, 800, .inl f29)), (qf30, .inl (cf30, 800, .inl f30)), (qf37, .inl (cf37, 800, .inl f37)), (qf36, .inl (cf36, 800, .inl f36)), (qf40, .inl (cf40, 1500, .inl f40)), (qf41, .inl (cf41, 1500, .inl f41)), (qf42, .inl (cf42, 1500, .inl f42)), (qf44, .inl (cf44, 1500, .inl g44_35)), (qf43, .inl (cf43, 1500, .inl f43))]) [0, 1, 2, 3, 4, 5, 6, 7, 8, 9, 10, 11, 12, 13, 14, 15, 16, 17, 18] rfl) hsp
      · rw [if_pos c_11] at hsp
        refine lv_aload_n hx hb dX13_memberHead_57 rfl (lv_at hl 3 rfl) ?_
        refine va_get (D := (dC, dI)) (ci := 13) (v := .ref qf30) (C := RX13) (T := TX13) (N := 155) hx hb hts uV_h9_X13 hown hK hP 0 rfl rfl 30 (by decide) (hts (.fieldLink RX13 74 "ClassMillModel" "memberSort" "[I") mw_h9_123) (fun _ h9 => h9) hfh_35_30 dX13_memberHead_58 ?_
        refine lv_iload hx hb dX13_memberHead_61 (lv_at hl 0 rfl) ?_
        obtain ⟨hi_12, hsp⟩ := ox_in hsp
        refine va_iald hx hb hK hP 11 10 rfl rfl (i := l4_35) hi_12 dX13_memberHead_63 ?_
        refine lv_if_le (tgt := 71) hx hb dX13_memberHead_64 (by decide) (fun c_13 => ?_) (fun c_13 => ?_)
        · rw [if_pos c_13] at hsp
          refine lv_iconst (v := 0) hx hb dX13_memberHead_71 (by decide) ?_
          exact hj_72 (H, locs, ls, z35, l1_35, l2_35, l3_35, l4_35, 0, g35_35, g44_35, x10_35, x9_35) ⟨lv_sub hl [3, 4, 2, 1, 0] rfl, hS, hD.sub (ws' := [(h0, .inr (13, z35)), (qf31, .inl (cf31, 800, .inl f31)), (qf32, .inl (cf32, 800, .inl f32)), (qf33, .inl (cf33, 800, .inl f33)), (qf5, .inl (cf5, 3002, .inl f5)), (qf6, .inl (cf6, 3002, .inl f6)), (qf2, .inl (cf2, 3000, .inl f2)), (qf25, .inl (cf25, 400, .inl f25)), (qf35, .inl (cf35, 800, .inl g35_35)), (qf34, .inl (cf34, 800, .inl f34)), (qf29, .inl (cf29, 800, .inl f29)), (qf30, .inl (cf30, 800, .inl f30)), (qf37, .inl (cf37, 800, .inl f37)), (qf36, .inl (cf36, 800, .inl f36)), (qf40, .inl (cf40, 1500, .inl f40)), (qf41, .inl (cf41, 1500, .inl f41)), (qf42, .inl (cf42, 1500, .inl f42)), (qf44, .inl (cf44, 1500, .inl g44_35)), (qf43, .inl (cf43, 1500, .inl f43))]) [0, 1, 2, 3, 4, 5, 6, 7, 8, 9, 10, 11, 12, 13, 14, 15, 16, 17, 18] (by decide) rfl, hP.sub (ws' := [(h0, .inr (13, z35)), (qf31, .inl (cf31, 800, .inl f31)), (qf32, .inl (cf32, 800, .inl f32)), (qf33, .inl (cf33, 800, .inl f33)), (qf5, .inl (cf5, 3002, .inl f5)), (qf6, .inl (cf6, 3002, .inl f6)), (qf2, .inl (cf2, 3000, .inl f2)), (qf25, .inl (cf25, 400, .inl f25)), (qf35, .inl (cf35, 800, .inl g35_35)), (qf34, .inl (cf34, 800, .inl f34)), (qf29, .inl (cf29, 800, .inl f29)), (qf30, .inl (cf30, 800, .inl f30)), (qf37, .inl (cf37, 800, .inl f37)), (qf36, .inl (cf36, 800, .inl f36)), (qf40, .inl (cf40, 1500, .inl f40)), (qf41, .inl (cf41, 1500, .inl f41)), (qf42, .inl (cf42, 1500, .inl f42)), (qf44, .inl (cf44, 1500, .inl g44_35)), (qf43, .inl (cf43, 1500, .inl f43))]) [0, 1, 2, 3, 4, 5, 6, 7, 8, 9, 10, 11, 12, 13, 14, 15, 16, 17, 18] rfl, hfh_35_2, hfh_35_5, hfh_35_6, hfh_35_9, hfh_35_10, hfh_35_24, hfh_35_25, hfh_35_29, hfh_35_30, hfh_35_31, hfh_35_32, hfh_35_33, hfh_35_34, hfh_35_35, hfh_35_36, hfh_35_37, hfh_35_40, hfh_35_41, hfh_35_42, hfh_35_43, hfh_35_44, hlh_35, hrh_35, hsp⟩
        · rw [if_neg c_13] at hsp
          refine lv_iconst (v := 1) hx hb dX13_memberHead_67 (by decide) ?_
          refine lv_goto (tgt := 72) hx hb dX13_memberHead_68 (by decide) ?_
          exact hj_72 (H, locs, ls, z35, l1_35, l2_35, l3_35, l4_35, 1, g35_35, g44_35, x10_35, x9_35) ⟨lv_sub hl [3, 4, 2, 1, 0] rfl, hS, hD.sub (ws' := [(h0, .inr (13, z35)), (qf31, .inl (cf31, 800, .inl f31)), (qf32, .inl (cf32, 800, .inl f32)), (qf33, .inl (cf33, 800, .inl f33)), (qf5, .inl (cf5, 3002, .inl f5)), (qf6, .inl (cf6, 3002, .inl f6)), (qf2, .inl (cf2, 3000, .inl f2)), (qf25, .inl (cf25, 400, .inl f25)), (qf35, .inl (cf35, 800, .inl g35_35)), (qf34, .inl (cf34, 800, .inl f34)), (qf29, .inl (cf29, 800, .inl f29)), (qf30, .inl (cf30, 800, .inl f30)), (qf37, .inl (cf37, 800, .inl f37)), (qf36, .inl (cf36, 800, .inl f36)), (qf40, .inl (cf40, 1500, .inl f40)), (qf41, .inl (cf41, 1500, .inl f41)), (qf42, .inl (cf42, 1500, .inl f42)), (qf44, .inl (cf44, 1500, .inl g44_35)), (qf43, .inl (cf43, 1500, .inl f43))]) [0, 1, 2, 3, 4, 5, 6, 7, 8, 9, 10, 11, 12, 13, 14, 15, 16, 17, 18] (by decide) rfl, hP.sub (ws' := [(h0, .inr (13, z35)), (qf31, .inl (cf31, 800, .inl f31)), (qf32, .inl (cf32, 800, .inl f32)), (qf33, .inl (cf33, 800, .inl f33)), (qf5, .inl (cf5, 3002, .inl f5)), (qf6, .inl (cf6, 3002, .inl f6)), (qf2, .inl (cf2, 3000, .inl f2)), (qf25, .inl (cf25, 400, .inl f25)), (qf35, .inl (cf35, 800, .inl g35_35)), (qf34, .inl (cf34, 800, .inl f34)), (qf29, .inl (cf29, 800, .inl f29)), (qf30, .inl (cf30, 800, .inl f30)), (qf37, .inl (cf37, 800, .inl f37)), (qf36, .inl (cf36, 800, .inl f36)), (qf40, .inl (cf40, 1500, .inl f40)), (qf41, .inl (cf41, 1500, .inl f41)), (qf42, .inl (cf42, 1500, .inl f42)), (qf44, .inl (cf44, 1500, .inl g44_35)), (qf43, .inl (cf43, 1500, .inl f43))]) [0, 1, 2, 3, 4, 5, 6, 7, 8, 9, 10, 11, 12, 13, 14, 15, 16, 17, 18] rfl, hfh_35_2, hfh_35_5, hfh_35_6, hfh_35_9, hfh_35_10, hfh_35_24, hfh_35_25, hfh_35_29, hfh_35_30, hfh_35_31, hfh_35_32, hfh_35_33, hfh_35_34, hfh_35_35, hfh_35_36, hfh_35_37, hfh_35_40, hfh_35_41, hfh_35_42, hfh_35_43, hfh_35_44, hlh_35, hrh_35, hsp⟩
def jn_vm_overrides_148 (nf : Nat) (a1 : Int32) (v9 : Int32) (v10 : Int32) (v28 : Int32) (f29 : Nat → Int32) (f27 : Nat → Int32) (f34 : Nat → Int32) (f30 : Nat → Int32) (f6 : Nat → Int32) (f5 : Nat → Int32) (f2 : Nat → Int32) (f35 : Nat → Int32) (f37 : Nat → Int32) (f36 : Nat → Int32) (f44 : Nat → Int32)  (l1_148 : Int32) (l3_148 : Int32) (x10_148 : Int32) (x9_148 : Int32) : Option (Int32 × Int32) := (if l3_148 = 0 then (if l1_148 < 0 then none else if 800 ≤ (l1_148 : Int32).toNatClampNeg then none else ((sp_tm_wrong nf 10 (f34 (l1_148 : Int32).toNatClampNeg) x9_148 x10_148 f5).bind (fun p1 => (some (p1.1, p1.2))))) else (some (x10_148, x9_148)))
def lp_vm_overrides_90 (nf n : Nat) (a1 : Int32) (v9 : Int32) (v10 : Int32) (v28 : Int32) (f29 : Nat → Int32) (f27 : Nat → Int32) (f34 : Nat → Int32) (f30 : Nat → Int32) (f6 : Nat → Int32) (f5 : Nat → Int32) (f2 : Nat → Int32) (f35 : Nat → Int32) (f37 : Nat → Int32) (f36 : Nat → Int32) (f44 : Nat → Int32)  (l1_90 : Int32) (l2_90 : Int32) (l3_90 : Int32) (l4_90 : Int32) (x10_90 : Int32) (x9_90 : Int32) : Option (Int32 × Int32) := match n with
  | 0 => none
  | n + 1 => (if l1_90 < 0 then none else if 800 ≤ (l1_90 : Int32).toNatClampNeg then none else (if (f37 (l1_90 : Int32).toNatClampNeg) ≤ l4_90 then (jn_vm_overrides_148 nf a1 v9 v10 v28 f29 f27 f34 f30 f6 f5 f2 f35 f37 f36 f44  l1_90 l3_90 x10_90 x9_90) else (if l3_90 = 0 then (jn_vm_overrides_148 nf a1 v9 v10 v28 f29 f27 f34 f30 f6 f5 f2 f35 f37 f36 f44  l1_90 l3_90 x10_90 x9_90) else (if l1_90 < 0 then none else if 800 ≤ (l1_90 : Int32).toNatClampNeg then none else (if ((f36 (l1_90 : Int32).toNatClampNeg) + l4_90) < 0 then none else if 1500 ≤ (((f36 (l1_90 : Int32).toNatClampNeg) + l4_90) : Int32).toNatClampNeg then none else (if l2_90 < 0 then none else if 800 ≤ (l2_90 : Int32).toNatClampNeg then none else (if ((f36 (l2_90 : Int32).toNatClampNeg) + l4_90) < 0 then none else if 1500 ≤ (((f36 (l2_90 : Int32).toNatClampNeg) + l4_90) : Int32).toNatClampNeg then none else (if (f44 (((f36 (l1_90 : Int32).toNatClampNeg) + l4_90) : Int32).toNatClampNeg) = (f44 (((f36 (l2_90 : Int32).toNatClampNeg) + l4_90) : Int32).toNatClampNeg) then (lp_vm_overrides_90 nf n a1 v9 v10 v28 f29 f27 f34 f30 f6 f5 f2 f35 f37 f36 f44 l1_90 l2_90 1 (l4_90 + 1) x10_90 x9_90) else (lp_vm_overrides_90 nf n a1 v9 v10 v28 f29 f27 f34 f30 f6 f5 f2 f35 f37 f36 f44 l1_90 l2_90 0 (l4_90 + 1) x10_90 x9_90)))))))))
def jn_vm_overrides_86 (nf : Nat) (a1 : Int32) (v9 : Int32) (v10 : Int32) (v28 : Int32) (f29 : Nat → Int32) (f27 : Nat → Int32) (f34 : Nat → Int32) (f30 : Nat → Int32) (f6 : Nat → Int32) (f5 : Nat → Int32) (f2 : Nat → Int32) (f35 : Nat → Int32) (f37 : Nat → Int32) (f36 : Nat → Int32) (f44 : Nat → Int32)  (l1_86 : Int32) (l2_86 : Int32) (s0_86 : Int32) (x10_86 : Int32) (x9_86 : Int32) : Option (Int32 × Int32) := (lp_vm_overrides_90 nf nf a1 v9 v10 v28 f29 f27 f34 f30 f6 f5 f2 f35 f37 f36 f44  l1_86 l2_86 s0_86 0 x10_86 x9_86)
def jn_vm_overrides_85 (nf : Nat) (a1 : Int32) (v9 : Int32) (v10 : Int32) (v28 : Int32) (f29 : Nat → Int32) (f27 : Nat → Int32) (f34 : Nat → Int32) (f30 : Nat → Int32) (f6 : Nat → Int32) (f5 : Nat → Int32) (f2 : Nat → Int32) (f35 : Nat → Int32) (f37 : Nat → Int32) (f36 : Nat → Int32) (f44 : Nat → Int32)  (l1_85 : Int32) (l2_85 : Int32) (x10_85 : Int32) (x9_85 : Int32) : Option (Int32 × Int32) := (jn_vm_overrides_86 nf a1 v9 v10 v28 f29 f27 f34 f30 f6 f5 f2 f35 f37 f36 f44  l1_85 l2_85 0 x10_85 x9_85)
def sp_vm_overrides (nf : Nat) (a1 : Int32) (v9 : Int32) (v10 : Int32) (v28 : Int32) (f29 : Nat → Int32) (f27 : Nat → Int32) (f34 : Nat → Int32) (f30 : Nat → Int32) (f6 : Nat → Int32) (f5 : Nat → Int32) (f2 : Nat → Int32) (f35 : Nat → Int32) (f37 : Nat → Int32) (f36 : Nat → Int32) (f44 : Nat → Int32) : Option (Int32 × Int32) := (if a1 < 0 then none else if 800 ≤ (a1 : Int32).toNatClampNeg then none else ((sp_tm_upperOf nf (8 + (f29 (a1 : Int32).toNatClampNeg)) f27).bind (fun p1 => (if a1 < 0 then none else if 800 ≤ (a1 : Int32).toNatClampNeg then none else ((sp_tn_memberOf nf p1 (f34 (a1 : Int32).toNatClampNeg) 1 v28 f27 f29 f30 f34 f6 f5 f2).bind (fun p2 => (if p2 = (-1) then (some (v10, v9)) else (if a1 < 0 then none else if 800 ≤ (a1 : Int32).toNatClampNeg then none else (if (f30 (a1 : Int32).toNatClampNeg) = 1 then (if p2 < 0 then none else if 800 ≤ (p2 : Int32).toNatClampNeg then none else (if (f30 (p2 : Int32).toNatClampNeg) = 1 then (if a1 < 0 then none else if 800 ≤ (a1 : Int32).toNatClampNeg then none else (if p2 < 0 then none else if 800 ≤ (p2 : Int32).toNatClampNeg then none else (if (f35 (a1 : Int32).toNatClampNeg) = (f35 (p2 : Int32).toNatClampNeg) then (if a1 < 0 then none else if 800 ≤ (a1 : Int32).toNatClampNeg then none else (if p2 < 0 then none else if 800 ≤ (p2 : Int32).toNatClampNeg then none else (if (f37 (a1 : Int32).toNatClampNeg) = (f37 (p2 : Int32).toNatClampNeg) then (jn_vm_overrides_86 nf a1 v9 v10 v28 f29 f27 f34 f30 f6 f5 f2 f35 f37 f36 f44  a1 p2 1 v10 v9) else (jn_vm_overrides_85 nf a1 v9 v10 v28 f29 f27 f34 f30 f6 f5 f2 f35 f37 f36 f44  a1 p2 v10 v9)))) else (jn_vm_overrides_85 nf a1 v9 v10 v28 f29 f27 f34 f30 f6 f5 f2 f35 f37 f36 f44  a1 p2 v10 v9)))) else (jn_vm_overrides_85 nf a1 v9 v10 v28 f29 f27 f34 f30 f6 f5 f2 f35 f37 f36 f44  a1 p2 v10 v9))) else (jn_vm_overrides_85 nf a1 v9 v10 v28 f29 f27 f34 f30 f6 f5 f2 f35 f37 f36 f44  a1 p2 v10 v9))))))))))
