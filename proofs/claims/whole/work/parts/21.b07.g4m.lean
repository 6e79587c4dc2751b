set_option maxHeartbeats 4000000 in
set_option maxRecDepth 100000 in
/-- ClassMillModel.spellClass -/
theorem vm_spellClass (l : Launch) (dC : Nat → ClassId) (dI : Nat → Nat → Nat) (sz : Nat) (h0 : Nat) (zs : (List Value)) (a1 : Int32) (qf2 : Nat) (qf5 : Nat) (qf6 : Nat) (qf25 : Nat) (qf65 : Nat) (v66 : Int32) (cf65 : ClassId) (f65 : (Nat → Int32)) (cf25 : ClassId) (f25 : (Nat → Int32)) (cf6 : ClassId) (f6 : (Nat → Int32)) (cf5 : ClassId) (f5 : (Nat → Int32)) (cf2 : ClassId) (f2 : (Nat → Int32)) (nS477 : Nat) (fS477 : (Nat → Int32)) (hS477 : Nat) (qS477 : Nat) (tS477 : String) (nf : Nat) (o65 : (Nat → Int32)) (w66 : Int32) (hlen : zs.length = 155) (hf2 : zs[2]? = some (.ref qf2)) (hf5 : zs[5]? = some (.ref qf5)) (hf6 : zs[6]? = some (.ref qf6)) (hf25 : zs[25]? = some (.ref qf25)) (hf65 : zs[65]? = some (.ref qf65)) (hf66 : zs[66]? = some (.int v66)) (hsp : sp_vm_spellClass nf a1 v66 f65 f25 f6 f5 f2 nS477 fS477 = some (o65, w66)) : Met l yX13_spellClass (.code yX13_spellClass cX13_spellClass 4 none :: VS_h9) ({ frames := 4, cells := 0, slots := 0, locals := 85 }) (va_Pc [.ref h0, .int a1] (fun U => U.heap.size = sz ∧ va_P (dC, dI) vwCl [(h0, .inr (13, zs)), (qf65, .inl (cf65, 200, .inl f65)), (qf25, .inl (cf25, 400, .inl f25)), (qf6, .inl (cf6, 3002, .inl f6)), (qf5, .inl (cf5, 3002, .inl f5)), (qf2, .inl (cf2, 3000, .inl f2))] U.heap ∧ va_K (dC, dI) vwCl [(cf65, .int), (cf25, .int), (cf6, .int), (cf5, .int), (cf2, .int)] U ∧ va_D (fun _ => True) [(h0, .inr (13, zs)), (qf65, .inl (cf65, 200, .inl f65)), (qf25, .inl (cf25, 400, .inl f25)), (qf6, .inl (cf6, 3002, .inl f6)), (qf5, .inl (cf5, 3002, .inl f5)), (qf2, .inl (cf2, 3000, .inl f2))] ∧ pz_W nS477 fS477 hS477 qS477 (va_A [(h0, .inr (13, zs)), (qf65, .inl (cf65, 200, .inl f65)), (qf25, .inl (cf25, 400, .inl f25)), (qf6, .inl (cf6, 3002, .inl f6)), (qf5, .inl (cf5, 3002, .inl f5)), (qf2, .inl (cf2, 3000, .inl f2))] sz) U U.heap ∧ vk_R RX13 477 tS477 hS477 U)) (va_Qv (fun (u : (List Value)) => match u with | (zo1) => True ∧ zo1.length = 155 ∧ (∀ j : Nat, j ≠ 66 → zo1[j]? = zs[j]?) ∧ zo1[66]? = some (.int w66)) (fun (u : (List Value)) (t : State) => match u with | (zo1) => va_P (dC, dI) vwCl [(h0, .inr (13, zo1)), (qf65, .inl (cf65, 200, .inl o65)), (qf25, .inl (cf25, 400, .inl f25)), (qf6, .inl (cf6, 3002, .inl f6)), (qf5, .inl (cf5, 3002, .inl f5)), (qf2, .inl (cf2, 3000, .inl f2))] t.heap ∧ va_K (dC, dI) vwCl [(cf65, .int), (cf25, .int), (cf6, .int), (cf5, .int), (cf2, .int)] t ∧ va_D (va_A [(h0, .inr (13, zs)), (qf65, .inl (cf65, 200, .inl f65)), (qf25, .inl (cf25, 400, .inl f25)), (qf6, .inl (cf6, 3002, .inl f6)), (qf5, .inl (cf5, 3002, .inl f5)), (qf2, .inl (cf2, 3000, .inl f2))] sz) [(h0, .inr (13, zo1)), (qf65, .inl (cf65, 200, .inl o65)), (qf25, .inl (cf25, 400, .inl f25)), (qf6, .inl (cf6, 3002, .inl f6)), (qf5, .inl (cf5, 3002, .inl f5)), (qf2, .inl (cf2, 3000, .inl f2))]) (va_A [(h0, .inr (13, zs)), (qf65, .inl (cf65, 200, .inl f65)), (qf25, .inl (cf25, 400, .inl f25)), (qf6, .inl (cf6, 3002, .inl f6)), (qf5, .inl (cf5, 3002, .inl f5)), (qf2, .inl (cf2, 3000, .inl f2))] sz)) 0 0 (va_A [(h0, .inr (13, zs)), (qf65, .inl (cf65, 200, .inl f65)), (qf25, .inl (cf25, 400, .inl f25)), (qf6, .inl (cf6, 3002, .inl f6)), (qf5, .inl (cf5, 3002, .inl f5)), (qf2, .inl (cf2, 3000, .inl f2))] sz) := by
  refine Met.ofW (cc := cX13_spellClass) (maxL := 4) (ret := none) (by decide) rfl ?_
  intro p e s m args below meth c s₁ B hml hv
  obtain ⟨rfl, hsz, hP, hK, hD0, hZWS477, hZRS477⟩ := hv
  have hx := B.exec
  have hb := B.bytes
  have hr := B.returns
  have hts := atoms_spec (ws := (.code yX13_spellClass cX13_spellClass 4 none :: VS_h9)) B.pre
  replace hts := fun w (h : w ∈ VS_h9) => hts w (List.mem_cons_of_mem _ h)
  have hown : s.vm.findClass RX13 = some m.cls := findClass_of_methodNamed B.named
  have hlocks := B.notSynchronized
  subst hsz
  have hD := hD0.self (sz := s.heap.size)
  generalize hAe : va_A [(h0, .inr (13, zs)), (qf65, .inl (cf65, 200, .inl f65)), (qf25, .inl (cf25, 400, .inl f25)), (qf6, .inl (cf6, 3002, .inl f6)), (qf5, .inl (cf5, 3002, .inl f5)), (qf2, .inl (cf2, 3000, .inl f2))] s.heap.size = A at hD hZWS477 ⊢
  have hA : ∀ q : Nat, s.heap.size ≤ q → A q := fun q h => by rw [← hAe]; exact Or.inr h
  have hP : va_P (dC, dI) vwCl [(h0, .inr (13, zs)), (qf65, .inl (cf65, 200, .inl f65)), (qf25, .inl (cf25, 400, .inl f25)), (qf6, .inl (cf6, 3002, .inl f6)), (qf5, .inl (cf5, 3002, .inl f5)), (qf2, .inl (cf2, 3000, .inl f2))] s.heap := hP
  have hl := lv_entry ([.ref h0, .int a1]) (n := 4) (Nat.le_of_ble_eq_true rfl)
  rw [lg_entry_eq]
  generalize (lg_sl ([.ref h0, .int a1]) ++ List.replicate (4 - (lg_sl ([.ref h0, .int a1])).length) Slot.unset).toArray = ls at hl ⊢
  have hl : lv_has ls 4 [(0, .ref h0), (1, .int a1)] := hl
  obtain ⟨H, hH⟩ : ∃ H : Heap, s.heap = H := ⟨_, rfl⟩
  rw [hH] at hP ⊢
  have hS : va_S A s.heap H [] := by rw [← hH]; exact va_S.rf
  obtain ⟨locs, hlo⟩ : ∃ locs : List Loc, locs = [] := ⟨_, rfl⟩
  rw [← hlo] at hS ⊢
  have hrs0 : ∀ j : Nat, j ≠ 66 → zs[j]? = zs[j]? := fun _ _  => rfl
  unfold sp_vm_spellClass at hsp
  refine lv_iload_n hx hb dX13_spellClass_0 rfl (lv_at hl 1 rfl) ?_
  refine lv_bipush (v := 8) hx hb dX13_spellClass_1 (by decide) ?_
  refine lv_icmp_lt (tgt := 20) hx hb dX13_spellClass_3 (by decide) (fun c_1 => ?_) (fun c_1 => ?_)
  · rw [if_pos c_1] at hsp
    refine lv_iconst (v := (-1)) hx hb dX13_spellClass_20 (by decide) ?_
    refine lv_istore_n (lv' := [(2, .int (-1)), (0, .ref h0), (1, .int a1)]) hx hb dX13_spellClass_21 rfl hl (by decide) rfl (fun ls hl => ?_)
    refine lv_iconst (v := 0) hx hb dX13_spellClass_22 (by decide) ?_
    refine lv_istore_n (lv' := [(3, .int 0), (2, .int (-1)), (0, .ref h0), (1, .int a1)]) hx hb dX13_spellClass_23 rfl hl (by decide) rfl (fun ls hl => ?_)
    replace hl : lv_has ls 4 [(3, .int 0), (2, .int (-1)), (0, .ref h0), (1, .int a1)] := lv_sub hl [0, 1, 2, 3] rfl
    replace hP := hP.sub (ws' := [(h0, .inr (13, zs)), (qf65, .inl (cf65, 200, .inl f65)), (qf25, .inl (cf25, 400, .inl f25)), (qf6, .inl (cf6, 3002, .inl f6)), (qf5, .inl (cf5, 3002, .inl f5)), (qf2, .inl (cf2, 3000, .inl f2))]) [0, 1, 2, 3, 4, 5] rfl
    replace hD := hD.sub (ws' := [(h0, .inr (13, zs)), (qf65, .inl (cf65, 200, .inl f65)), (qf25, .inl (cf25, 400, .inl f25)), (qf6, .inl (cf6, 3002, .inl f6)), (qf5, .inl (cf5, 3002, .inl f5)), (qf2, .inl (cf2, 3000, .inl f2))]) [0, 1, 2, 3, 4, 5] (by decide) rfl
    replace hK := hK.sub (tys' := [(cf65, .int), (cf25, .int), (cf6, .int), (cf5, .int), (cf2, .int)]) [0, 1, 2, 3, 4] rfl
    obtain ⟨n_24, hn_24⟩ : ∃ z : Nat, z = nf := ⟨_, rfl⟩
    obtain ⟨l1_24, el1_24⟩ : ∃ z : Int32, z = a1 := ⟨_, rfl⟩
    obtain ⟨l2_24, el2_24⟩ : ∃ z : Int32, z = (-1) := ⟨_, rfl⟩
    obtain ⟨l3_24, el3_24⟩ : ∃ z : Int32, z = 0 := ⟨_, rfl⟩
    obtain ⟨g65_24, eg65_24⟩ : ∃ z : Nat → Int32, z = f65 := ⟨_, rfl⟩
    obtain ⟨x66_24, ex66_24⟩ : ∃ z : Int32, z = v66 := ⟨_, rfl⟩
    replace hsp : lp_vm_spellClass_24 nf n_24 a1 v66 f65 f25 f6 f5 f2 nS477 fS477 l1_24 l2_24 l3_24 g65_24 x66_24 = some (o65, w66) := by rw [hn_24, el1_24, el2_24, el3_24, eg65_24, ex66_24]; exact hsp
    replace hl : lv_has ls 4 [(3, .int l3_24), (2, .int l2_24), (0, .ref h0), (1, .int l1_24)] := by rw [el1_24, el2_24, el3_24]; exact hl
    obtain ⟨z24, ez24⟩ : ∃ z : List Value, z = zs := ⟨_, rfl⟩
    have hfh_24_2 : z24[2]? = some (.ref qf2) := by rw [ez24]; exact hf2
    have hfh_24_5 : z24[5]? = some (.ref qf5) := by rw [ez24]; exact hf5
    have hfh_24_6 : z24[6]? = some (.ref qf6) := by rw [ez24]; exact hf6
    have hfh_24_25 : z24[25]? = some (.ref qf25) := by rw [ez24]; exact hf25
    have hfh_24_65 : z24[65]? = some (.ref qf65) := by rw [ez24]; exact hf65
    have hfh_24_66 : z24[66]? = some (.int x66_24) := by rw [ez24, ex66_24]; exact hf66
    have hlh_24 : z24.length = 155 := by rw [ez24]; exact hlen
    have hrh_24 : ∀ j : Nat, j ≠ 66 → z24[j]? = zs[j]? := by rw [ez24]; exact hrs0
    replace hP : va_P (dC, dI) vwCl [(h0, .inr (13, z24)), (qf65, .inl (cf65, 200, .inl g65_24)), (qf25, .inl (cf25, 400, .inl f25)), (qf6, .inl (cf6, 3002, .inl f6)), (qf5, .inl (cf5, 3002, .inl f5)), (qf2, .inl (cf2, 3000, .inl f2))] H := by rw [ez24, eg65_24]; exact hP
    replace hD : va_D A [(h0, .inr (13, z24)), (qf65, .inl (cf65, 200, .inl g65_24)), (qf25, .inl (cf25, 400, .inl f25)), (qf6, .inl (cf6, 3002, .inl f6)), (qf5, .inl (cf5, 3002, .inl f5)), (qf2, .inl (cf2, 3000, .inl f2))] := by rw [ez24, eg65_24]; exact hD
    clear hn_24 ez24 el1_24 el2_24 el3_24 eg65_24 ex66_24
    try clear hlo
    try clear hH
    revert hsp
    revert hP
    revert hD
    revert hS
    revert hl
    revert hrh_24
    revert hlh_24
    revert hfh_24_66
    revert hfh_24_65
    revert hfh_24_25
    revert hfh_24_6
    revert hfh_24_5
    revert hfh_24_2
    revert x66_24
    revert g65_24
    revert l3_24
    revert l2_24
    revert l1_24
    revert z24
    revert ls
    revert locs
    revert H
    induction n_24 with
    | zero => intro H locs ls z24 l1_24 l2_24 l3_24 g65_24 x66_24 hfh_24_2 hfh_24_5 hfh_24_6 hfh_24_25 hfh_24_65 hfh_24_66 hlh_24 hrh_24 hl hS hD hP hsp; unfold lp_vm_spellClass_24 at hsp; cases hsp
    | succ n_24 ih_24 =>
      intro H locs ls z24 l1_24 l2_24 l3_24 g65_24 x66_24 hfh_24_2 hfh_24_5 hfh_24_6 hfh_24_25 hfh_24_65 hfh_24_66 hlh_24 hrh_24 hl hS hD hP hsp
      unfold lp_vm_spellClass_24 at hsp
      try dsimp only at hsp
      refine lv_iload_n hx hb dX13_spellClass_24 rfl (lv_at hl 0 rfl) ?_
      refine pw_ldcwS hx hb hown hZRS477 dX13_spellClass_25 ?_
      have hPc := hP.sub (ws' := []) [] rfl
      have hDc := hD.sub (ws' := []) [] (by decide) rfl
      have hKc := hK.sub (tys' := []) [] rfl
      have hFc := va_free (wc := []) hD hS hA [] rfl
      refine va_calli (va_runV (As := []) (rest := [.int l3_24]) ⟨hx, hb, hml, hown, hts⟩ (ct_slen l dC dI H.size nS477 fS477 hS477 qS477) (cwV 0 hts gv_h9_0 rfl rfl rfl (by decide +kernel) ⟨Nat.le_of_ble_eq_true rfl, Nat.le_of_ble_eq_true rfl⟩) ⟨fun a U g mk q => by obtain ⟨q0, q1, qP, qK, qD, qhZW⟩ := q; exact ⟨q0, q1, qP, va_K.moved (u := U) (U := U.calling g mk a) (Vm.Alike.refl U.vm) qK, qD, pz_W.moved (u := U) (U := U.calling g mk a) (Vm.Alike.refl U.vm) qhZW⟩, pz_recv hZWS477 hS, fun U hU hW => ⟨rfl, by rw [hU], by rw [hU]; exact hPc, va_K.moved hW.alike hKc, hDc.weaken (fun _ _ _ _ => trivial), by rw [hU]; exact ((pz_W.moved hW.alike hZWS477).kept hS.2.1).narrow hFc⟩⟩ rfl rfl hl.1 rfl (lv_room (Nat.le_of_ble_eq_true rfl)) dX13_spellClass_28 ⟨Nat.le_of_ble_eq_true rfl, Nat.le_of_ble_eq_true rfl⟩) hS (fun q _ h => hFc q h) hFc ?_
      clear hS
      intro r_2 u t H1 locs ht hvm hw hB hz1 hk1 hS
      obtain ⟨⟩ := u
      obtain ⟨hP1, hK1, hD1⟩ := hB
      rw [ht] at hP1
      try dsimp only at hw
      have hPD := va_join (wr := [(h0, .inr (13, z24)), (qf65, .inl (cf65, 200, .inl g65_24)), (qf25, .inl (cf25, 400, .inl f25)), (qf6, .inl (cf6, 3002, .inl f6)), (qf5, .inl (cf5, 3002, .inl f5)), (qf2, .inl (cf2, 3000, .inl f2))]) (w1 := []) hP hD [] [0, 1, 2, 3, 4, 5] rfl rfl (by decide) (by decide) hk1 hFc hP1 hD1
      clear hP hD
      obtain ⟨hP, hD⟩ := hPD
      clear hPc hDc hKc hFc hP1 hK1 hD1 hz1 hk1 ht hvm
      generalize H1 = H at hP hS ⊢
      replace hP : va_P (dC, dI) vwCl [(h0, .inr (13, z24)), (qf65, .inl (cf65, 200, .inl g65_24)), (qf25, .inl (cf25, 400, .inl f25)), (qf6, .inl (cf6, 3002, .inl f6)), (qf5, .inl (cf5, 3002, .inl f5)), (qf2, .inl (cf2, 3000, .inl f2))] H := hP
      replace hD : va_D A [(h0, .inr (13, z24)), (qf65, .inl (cf65, 200, .inl g65_24)), (qf25, .inl (cf25, 400, .inl f25)), (qf6, .inl (cf6, 3002, .inl f6)), (qf5, .inl (cf5, 3002, .inl f5)), (qf2, .inl (cf2, 3000, .inl f2))] := hD
      obtain rfl : r_2 = (nI nS477) := hw
      refine lv_icmp_ge (tgt := 74) hx hb dX13_spellClass_31 (by decide) (fun c_3 => ?_) (fun c_3 => ?_)
      · rw [if_pos c_3] at hsp
        have hr0 := Option.some.inj hsp
        clear hsp
        obtain ⟨hq0, hr1⟩ := Prod.mk.inj hr0
        clear hr0
        subst hq0
        subst hr1
        have hP9 := hP.sub (ws' := [(h0, .inr (13, z24)), (qf65, .inl (cf65, 200, .inl g65_24)), (qf25, .inl (cf25, 400, .inl f25)), (qf6, .inl (cf6, 3002, .inl f6)), (qf5, .inl (cf5, 3002, .inl f5)), (qf2, .inl (cf2, 3000, .inl f2))]) [0, 1, 2, 3, 4, 5] rfl
        have hD9 := hD.sub (ws' := [(h0, .inr (13, z24)), (qf65, .inl (cf65, 200, .inl g65_24)), (qf25, .inl (cf25, 400, .inl f25)), (qf6, .inl (cf6, 3002, .inl f6)), (qf5, .inl (cf5, 3002, .inl f5)), (qf2, .inl (cf2, 3000, .inl f2))]) [0, 1, 2, 3, 4, 5] (by decide) rfl
        have hK9 := hK.sub (tys' := [(cf65, .int), (cf25, .int), (cf6, .int), (cf5, .int), (cf2, .int)]) [0, 1, 2, 3, 4] rfl
        exact W.vret hx hb hr (fun t ht hW => ⟨⟨(z24), rfl, ⟨trivial, hlh_24, hrh_24, hfh_24_66⟩, by rw [ht]; exact hP9, va_K.moved hW.alike hK9, hD9⟩, hS.F ht⟩) hS.2.2 dX13_spellClass_74
      · rw [if_neg c_3] at hsp
        refine pw_ldcwS hx hb hown hZRS477 dX13_spellClass_34 ?_
        refine lv_iload_n hx hb dX13_spellClass_37 rfl (lv_at hl 0 rfl) ?_
        obtain ⟨⟨hk_4j, hk_41, hk_42, hk_43, hk_44⟩, hsp⟩ := ox_ch hsp
        rw [hk_41]
        have hPc := hP.sub (ws' := []) [] rfl
        have hDc := hD.sub (ws' := []) [] (by decide) rfl
        have hKc := hK.sub (tys' := []) [] rfl
        have hFc := va_free (wc := []) hD hS hA [] rfl
        refine va_calli (va_runV (As := [.int (nI hk_4j)]) (rest := []) ⟨hx, hb, hml, hown, hts⟩ (ct_charAt l dC dI H.size nS477 fS477 hS477 qS477 hk_4j hk_43 hk_44) (cwV 1 hts gv_h9_1 rfl rfl rfl (by decide +kernel) ⟨Nat.le_of_ble_eq_true rfl, Nat.le_of_ble_eq_true rfl⟩) ⟨fun a U g mk q => by obtain ⟨q0, q1, qP, qK, qD, qhZW⟩ := q; exact ⟨q0, q1, qP, va_K.moved (u := U) (U := U.calling g mk a) (Vm.Alike.refl U.vm) qK, qD, pz_W.moved (u := U) (U := U.calling g mk a) (Vm.Alike.refl U.vm) qhZW⟩, pz_recv hZWS477 hS, fun U hU hW => ⟨rfl, by rw [hU], by rw [hU]; exact hPc, va_K.moved hW.alike hKc, hDc.weaken (fun _ _ _ _ => trivial), by rw [hU]; exact ((pz_W.moved hW.alike hZWS477).kept hS.2.1).narrow hFc⟩⟩ rfl rfl hl.1 rfl (lv_room (Nat.le_of_ble_eq_true rfl)) dX13_spellClass_38 ⟨Nat.le_of_ble_eq_true rfl, Nat.le_of_ble_eq_true rfl⟩) hS (fun q _ h => hFc q h) hFc ?_
        clear hS
        intro r_5 u t H1 locs ht hvm hw hB hz1 hk1 hS
        obtain ⟨⟩ := u
        obtain ⟨hP1, hK1, hD1⟩ := hB
        rw [ht] at hP1
        try dsimp only at hw
        have hPD := va_join (wr := [(h0, .inr (13, z24)), (qf65, .inl (cf65, 200, .inl g65_24)), (qf25, .inl (cf25, 400, .inl f25)), (qf6, .inl (cf6, 3002, .inl f6)), (qf5, .inl (cf5, 3002, .inl f5)), (qf2, .inl (cf2, 3000, .inl f2))]) (w1 := []) hP hD [] [0, 1, 2, 3, 4, 5] rfl rfl (by decide) (by decide) hk1 hFc hP1 hD1
        clear hP hD
        obtain ⟨hP, hD⟩ := hPD
        clear hPc hDc hKc hFc hP1 hK1 hD1 hz1 hk1 ht hvm
        generalize H1 = H at hP hS ⊢
        replace hP : va_P (dC, dI) vwCl [(h0, .inr (13, z24)), (qf65, .inl (cf65, 200, .inl g65_24)), (qf25, .inl (cf25, 400, .inl f25)), (qf6, .inl (cf6, 3002, .inl f6)), (qf5, .inl (cf5, 3002, .inl f5)), (qf2, .inl (cf2, 3000, .inl f2))] H := hP
        replace hD : va_D A [(h0, .inr (13, z24)), (qf65, .inl (cf65, 200, .inl g65_24)), (qf25, .inl (cf25, 400, .inl f25)), (qf6, .inl (cf6, 3002, .inl f6)), (qf5, .inl (cf5, 3002, .inl f5)), (qf2, .inl (cf2, 3000, .inl f2))] := hD
        obtain rfl : r_5 = (((fS477 (l3_24 : Int32).toNatClampNeg) &&& 255).toUInt32 % 65536).toInt32 := by rw [hk_42]; exact hw
        refine lv_bipush (v := 32) hx hb dX13_spellClass_41 (by decide) ?_
        refine lv_icmp_ne (tgt := 52) hx hb dX13_spellClass_43 (by decide) (fun c_6 => ?_) (fun c_6 => ?_)
        · rw [if_neg c_6] at hsp
          refine lv_iload_n hx hb dX13_spellClass_52 rfl (lv_at hl 1 rfl) ?_
          refine lv_iload_n hx hb dX13_spellClass_53 rfl (lv_at hl 3 rfl) ?_
          refine lv_icmp_ne (tgt := 68) hx hb dX13_spellClass_54 (by decide) (fun c_7 => ?_) (fun c_7 => ?_)
          · rw [if_neg c_7] at hsp
            refine lv_iinc (v := (l3_24 + 1)) (lv' := [(3, .int (l3_24 + 1)), (2, .int l2_24), (0, .ref h0), (1, .int l1_24)]) hx hb dX13_spellClass_68 hl (k := 0) rfl rfl (by decide) rfl (fun ls hl => ?_)
            refine lv_goto (tgt := 24) hx hb dX13_spellClass_71 (by decide) ?_
            exact ih_24 H locs ls z24 l1_24 l2_24 (l3_24 + 1) g65_24 x66_24 (hfh_24_2) (hfh_24_5) (hfh_24_6) (hfh_24_25) (hfh_24_65) (hfh_24_66) hlh_24 hrh_24 (lv_sub hl [0, 1, 2, 3] rfl) hS (hD.sub (ws' := [(h0, .inr (13, z24)), (qf65, .inl (cf65, 200, .inl g65_24)), (qf25, .inl (cf25, 400, .inl f25)), (qf6, .inl (cf6, 3002, .inl f6)), (qf5, .inl (cf5, 3002, .inl f5)), (qf2, .inl (cf2, 3000, .inl f2))]) [0, 1, 2, 3, 4, 5] (by decide) rfl) (hP.sub (ws' := [(h0, .inr (13, z24)), (qf65, .inl (cf65, 200, .inl g65_24)), (qf25, .inl (cf25, 400, .inl f25)), (qf6, .inl (cf6, 3002, .inl f6)), (qf5, .inl (cf5, 3002, .inl f5)), (qf2, .inl (cf2, 3000, .inl f2))]) [0, 1, 2, 3, 4, 5] rfl) hsp
          · rw [if_pos c_7] at hsp
            refine lv_aload_n hx hb dX13_spellClass_57 rfl (lv_at hl 2 rfl) ?_
            refine pw_ldcwS hx hb hown hZRS477 dX13_spellClass_58 ?_
            refine lv_iload_n hx hb dX13_spellClass_61 rfl (lv_at hl 0 rfl) ?_
            obtain ⟨⟨hk_8j, hk_81, hk_82, hk_83, hk_84⟩, hsp⟩ := ox_ch hsp
            rw [hk_81]
            have hPc := hP.sub (ws' := []) [] rfl
            have hDc := hD.sub (ws' := []) [] (by decide) rfl
            have hKc := hK.sub (tys' := []) [] rfl
            have hFc := va_free (wc := []) hD hS hA [] rfl
            refine va_calli (va_runV (As := [.int (nI hk_8j)]) (rest := [.ref h0]) ⟨hx, hb, hml, hown, hts⟩ (ct_charAt l dC dI H.size nS477 fS477 hS477 qS477 hk_8j hk_83 hk_84) (cwV 1 hts gv_h9_1 rfl rfl rfl (by decide +kernel) ⟨Nat.le_of_ble_eq_true rfl, Nat.le_of_ble_eq_true rfl⟩) ⟨fun a U g mk q => by obtain ⟨q0, q1, qP, qK, qD, qhZW⟩ := q; exact ⟨q0, q1, qP, va_K.moved (u := U) (U := U.calling g mk a) (Vm.Alike.refl U.vm) qK, qD, pz_W.moved (u := U) (U := U.calling g mk a) (Vm.Alike.refl U.vm) qhZW⟩, pz_recv hZWS477 hS, fun U hU hW => ⟨rfl, by rw [hU], by rw [hU]; exact hPc, va_K.moved hW.alike hKc, hDc.weaken (fun _ _ _ _ => trivial), by rw [hU]; exact ((pz_W.moved hW.alike hZWS477).kept hS.2.1).narrow hFc⟩⟩ rfl rfl hl.1 rfl (lv_room (Nat.le_of_ble_eq_true rfl)) dX13_spellClass_62 ⟨Nat.le_of_ble_eq_true rfl, Nat.le_of_ble_eq_true rfl⟩) hS (fun q _ h => hFc q h) hFc ?_
            clear hS
            intro r_9 u t H1 locs ht hvm hw hB hz1 hk1 hS
            obtain ⟨⟩ := u
            obtain ⟨hP1, hK1, hD1⟩ := hB
            rw [ht] at hP1
            try dsimp only at hw
            have hPD := va_join (wr := [(h0, .inr (13, z24)), (qf65, .inl (cf65, 200, .inl g65_24)), (qf25, .inl (cf25, 400, .inl f25)), (qf6, .inl (cf6, 3002, .inl f6)), (qf5, .inl (cf5, 3002, .inl f5)), (qf2, .inl (cf2, 3000, .inl f2))]) (w1 := []) hP hD [] [0, 1, 2, 3, 4, 5] rfl rfl (by decide) (by decide) hk1 hFc hP1 hD1
            clear hP hD
            obtain ⟨hP, hD⟩ := hPD
            clear hPc hDc hKc hFc hP1 hK1 hD1 hz1 hk1 ht hvm
            generalize H1 = H at hP hS ⊢
            replace hP : va_P (dC, dI) vwCl [(h0, .inr (13, z24)), (qf65, .inl (cf65, 200, .inl g65_24)), (qf25, .inl (cf25, 400, .inl f25)), (qf6, .inl (cf6, 3002, .inl f6)), (qf5, .inl (cf5, 3002, .inl f5)), (qf2, .inl (cf2, 3000, .inl f2))] H := hP
            replace hD : va_D A [(h0, .inr (13, z24)), (qf65, .inl (cf65, 200, .inl g65_24)), (qf25, .inl (cf25, 400, .inl f25)), (qf6, .inl (cf6, 3002, .inl f6)), (qf5, .inl (cf5, 3002, .inl f5)), (qf2, .inl (cf2, 3000, .inl f2))] := hD
            obtain rfl : r_9 = (((fS477 (l3_24 : Int32).toNatClampNeg) &&& 255).toUInt32 % 65536).toInt32 := by rw [hk_82]; exact hw
            obtain ⟨⟨g901_0, u1_1⟩, hu_1, hsp⟩ := ox_bind hsp
            try dsimp only at hsp
            have hPc := hP.sub (ws' := [(h0, .inr (13, z24)), (qf65, .inl (cf65, 200, .inl g65_24))]) [0, 1] rfl
            have hDc := hD.sub (ws' := [(h0, .inr (13, z24)), (qf65, .inl (cf65, 200, .inl g65_24))]) [0, 1] (by decide) rfl
            have hKc := hK.sub (tys' := [(cf65, .int)]) [0] rfl
            have hFc := va_free (wc := [(h0, .inr (13, z24)), (qf65, .inl (cf65, 200, .inl g65_24))]) hD hS hA [0, 1] rfl
            refine va_callv (va_runV (As := [.int (((fS477 (l3_24 : Int32).toNatClampNeg) &&& 255).toUInt32 % 65536).toInt32]) (rest := []) ⟨hx, hb, hml, hown, hts⟩ (tm_spell l dC dI H.size h0 z24 ((((fS477 (l3_24 : Int32).toNatClampNeg) &&& 255).toUInt32 % 65536).toInt32) qf65 x66_24 cf65 g65_24 nf g901_0 u1_1 hlh_24 hfh_24_65 hfh_24_66 hu_1) (cwV 1 hts gv_h9_27 rfl rfl rfl (by decide +kernel) ⟨Nat.le_of_ble_eq_true rfl, Nat.le_of_ble_eq_true rfl⟩) ⟨fun a U g mk q => by obtain ⟨q0, q1, qP, qK, qD⟩ := q; exact ⟨q0, q1, qP, va_K.moved (u := U) (U := U.calling g mk a) (Vm.Alike.refl U.vm) qK, qD⟩, va_recv hKc hPc (ci := 13) (q0 := 0) rfl rfl, fun U hU hW => ⟨rfl, by rw [hU], by rw [hU]; exact hPc, va_K.moved hW.alike hKc, hDc.weaken (fun _ _ _ _ => trivial)⟩⟩ rfl rfl hl.1 rfl (lv_room (Nat.le_of_ble_eq_true rfl)) dX13_spellClass_65 ⟨Nat.le_of_ble_eq_true rfl, Nat.le_of_ble_eq_true rfl⟩) hS (fun q _ h => hFc q h) hFc ?_
            clear hS
            intro u t H1 locs ht hvm hw hB hz1 hk1 hS
            obtain ⟨z_1, rfl⟩ : ∃ z, z = u := ⟨_, rfl⟩
            obtain ⟨hP1, hK1, hD1⟩ := hB
            rw [ht] at hP1
            have hK1 := va_K.moved hvm.symm hK1
            try dsimp only at hw
            have hPD := va_join (wr := [(qf25, .inl (cf25, 400, .inl f25)), (qf6, .inl (cf6, 3002, .inl f6)), (qf5, .inl (cf5, 3002, .inl f5)), (qf2, .inl (cf2, 3000, .inl f2))]) (w1 := [(h0, .inr (13, z_1)), (qf65, .inl (cf65, 200, .inl g901_0))]) hP hD [0, 1] [2, 3, 4, 5] rfl rfl (by decide) (by decide) hk1 hFc hP1 hD1
            clear hP hD
            obtain ⟨hP, hD⟩ := hPD
            replace hK := (hK.sub (tys' := [(cf25, .int), (cf6, .int), (cf5, .int), (cf2, .int)]) [1, 2, 3, 4] rfl).app hK1
            clear hPc hDc hKc hFc hP1 hK1 hD1 hz1 hk1 ht hvm
            generalize H1 = H at hP hS ⊢
            replace hP : va_P (dC, dI) vwCl [(qf25, .inl (cf25, 400, .inl f25)), (qf6, .inl (cf6, 3002, .inl f6)), (qf5, .inl (cf5, 3002, .inl f5)), (qf2, .inl (cf2, 3000, .inl f2)), (h0, .inr (13, z_1)), (qf65, .inl (cf65, 200, .inl g901_0))] H := hP
            replace hD : va_D A [(qf25, .inl (cf25, 400, .inl f25)), (qf6, .inl (cf6, 3002, .inl f6)), (qf5, .inl (cf5, 3002, .inl f5)), (qf2, .inl (cf2, 3000, .inl f2)), (h0, .inr (13, z_1)), (qf65, .inl (cf65, 200, .inl g901_0))] := hD
            replace hK : va_K (dC, dI) vwCl [(cf25, .int), (cf6, .int), (cf5, .int), (cf2, .int), (cf65, .int)] s := hK
            obtain ⟨hwa_1, hln_1, hre_1, hch_1_66⟩ := hw
            have hfk_1_2 : z_1[2]? = some (.ref qf2) := (hre_1 2 (by decide)).trans (hfh_24_2)
            have hfk_1_5 : z_1[5]? = some (.ref qf5) := (hre_1 5 (by decide)).trans (hfh_24_5)
            have hfk_1_6 : z_1[6]? = some (.ref qf6) := (hre_1 6 (by decide)).trans (hfh_24_6)
            have hfk_1_25 : z_1[25]? = some (.ref qf25) := (hre_1 25 (by decide)).trans (hfh_24_25)
            have hfk_1_65 : z_1[65]? = some (.ref qf65) := (hre_1 65 (by decide)).trans (hfh_24_65)
            have hrq_1 : ∀ j : Nat, j ≠ 66 → z_1[j]? = zs[j]? := fun j g66 => (hre_1 j g66).trans (hrh_24 j g66)
            refine lv_iinc (v := (l3_24 + 1)) (lv' := [(3, .int (l3_24 + 1)), (2, .int l2_24), (0, .ref h0), (1, .int l1_24)]) hx hb dX13_spellClass_68 hl (k := 0) rfl rfl (by decide) rfl (fun ls hl => ?_)
            refine lv_goto (tgt := 24) hx hb dX13_spellClass_71 (by decide) ?_
            exact ih_24 H locs ls z_1 l1_24 l2_24 (l3_24 + 1) g901_0 u1_1 (hfk_1_2) (hfk_1_5) (hfk_1_6) (hfk_1_25) (hfk_1_65) (hch_1_66) hln_1 hrq_1 (lv_sub hl [0, 1, 2, 3] rfl) hS (hD.sub (ws' := [(h0, .inr (13, z_1)), (qf65, .inl (cf65, 200, .inl g901_0)), (qf25, .inl (cf25, 400, .inl f25)), (qf6, .inl (cf6, 3002, .inl f6)), (qf5, .inl (cf5, 3002, .inl f5)), (qf2, .inl (cf2, 3000, .inl f2))]) [4, 5, 0, 1, 2, 3] (by decide) rfl) (hP.sub (ws' := [(h0, .inr (13, z_1)), (qf65, .inl (cf65, 200, .inl g901_0)), (qf25, .inl (cf25, 400, .inl f25)), (qf6, .inl (cf6, 3002, .inl f6)), (qf5, .inl (cf5, 3002, .inl f5)), (qf2, .inl (cf2, 3000, .inl f2))]) [4, 5, 0, 1, 2, 3] rfl) hsp
        · rw [if_pos c_6] at hsp
          refine lv_iinc (v := (l2_24 + 1)) (lv' := [(2, .int (l2_24 + 1)), (3, .int l3_24), (0, .ref h0), (1, .int l1_24)]) hx hb dX13_spellClass_46 hl (k := 1) rfl rfl (by decide) rfl (fun ls hl => ?_)
          refine lv_goto (tgt := 68) hx hb dX13_spellClass_49 (by decide) ?_
          refine lv_iinc (v := (l3_24 + 1)) (lv' := [(3, .int (l3_24 + 1)), (2, .int (l2_24 + 1)), (0, .ref h0), (1, .int l1_24)]) hx hb dX13_spellClass_68 hl (k := 1) rfl rfl (by decide) rfl (fun ls hl => ?_)
          refine lv_goto (tgt := 24) hx hb dX13_spellClass_71 (by decide) ?_
          exact ih_24 H locs ls z24 l1_24 (l2_24 + 1) (l3_24 + 1) g65_24 x66_24 (hfh_24_2) (hfh_24_5) (hfh_24_6) (hfh_24_25) (hfh_24_65) (hfh_24_66) hlh_24 hrh_24 (lv_sub hl [0, 1, 2, 3] rfl) hS (hD.sub (ws' := [(h0, .inr (13, z24)), (qf65, .inl (cf65, 200, .inl g65_24)), (qf25, .inl (cf25, 400, .inl f25)), (qf6, .inl (cf6, 3002, .inl f6)), (qf5, .inl (cf5, 3002, .inl f5)), (qf2, .inl (cf2, 3000, .inl f2))]) [0, 1, 2, 3, 4, 5] (by decide) rfl) (hP.sub (ws' := [(h0, .inr (13, z24)), (qf65, .inl (cf65, 200, .inl g65_24)), (qf25, .inl (cf25, 400, .inl f25)), (qf6, .inl (cf6, 3002, .inl f6)), (qf5, .inl (cf5, 3002, .inl f5)), (qf2, .inl (cf2, 3000, .inl f2))]) [0, 1, 2, 3, 4, 5] rfl) hsp
  · rw [if_neg c_1] at hsp
    refine lv_aload_n hx hb dX13_spellClass_6 rfl (lv_at hl 0 rfl) ?_
    refine lv_aload_n hx hb dX13_spellClass_7 rfl (lv_at hl 0 rfl) ?_
    refine va_get (D := (dC, dI)) (ci := 13) (v := .ref qf25) (C := RX13) (T := TX13) (N := 155) hx hb hts uV_h9_X13 hown hK hP 0 rfl rfl 25 (by decide) (hts (.fieldLink RX13 62 "ClassMillModel" "className" "[I") mw_h9_94) (fun _ h9 => h9) hf25 dX13_spellClass_8 ?_
    refine lv_iload_n hx hb dX13_spellClass_11 rfl (lv_at hl 1 rfl) ?_
    refine lv_bipush (v := 8) hx hb dX13_spellClass_12 (by decide) ?_
    refine lv_isub hx hb dX13_spellClass_14 ?_
    obtain ⟨hi_10, hsp⟩ := ox_in hsp
    refine va_iald hx hb hK hP 2 1 rfl rfl (i := (a1 - 8)) hi_10 dX13_spellClass_15 ?_
    obtain ⟨⟨g902_0, u2_1⟩, hu_2, hsp⟩ := ox_bind hsp
    try dsimp only at hsp
    have hPc := hP.sub (ws' := [(h0, .inr (13, zs)), (qf6, .inl (cf6, 3002, .inl f6)), (qf5, .inl (cf5, 3002, .inl f5)), (qf2, .inl (cf2, 3000, .inl f2)), (qf65, .inl (cf65, 200, .inl f65))]) [0, 3, 4, 5, 1] rfl
    have hDc := hD.sub (ws' := [(h0, .inr (13, zs)), (qf6, .inl (cf6, 3002, .inl f6)), (qf5, .inl (cf5, 3002, .inl f5)), (qf2, .inl (cf2, 3000, .inl f2)), (qf65, .inl (cf65, 200, .inl f65))]) [0, 3, 4, 5, 1] (by decide) rfl
    have hKc := hK.sub (tys' := [(cf6, .int), (cf5, .int), (cf2, .int), (cf65, .int)]) [2, 3, 4, 0] rfl
    have hFc := va_free (wc := [(h0, .inr (13, zs)), (qf6, .inl (cf6, 3002, .inl f6)), (qf5, .inl (cf5, 3002, .inl f5)), (qf2, .inl (cf2, 3000, .inl f2)), (qf65, .inl (cf65, 200, .inl f65))]) hD hS hA [0, 3, 4, 5, 1] rfl
    refine va_callv (va_runV (As := [.int (f25 ((a1 - 8) : Int32).toNatClampNeg)]) (rest := []) ⟨hx, hb, hml, hown, hts⟩ (tn_spellToken l dC dI H.size h0 zs ((f25 ((a1 - 8) : Int32).toNatClampNeg)) qf2 qf5 qf6 qf65 v66 cf6 f6 cf5 f5 cf2 f2 cf65 f65 nf g902_0 u2_1 hlen hf2 hf5 hf6 hf65 hf66 hu_2) (cwV 1 hts gv_h9_28 rfl rfl rfl (by decide +kernel) ⟨Nat.le_of_ble_eq_true rfl, Nat.le_of_ble_eq_true rfl⟩) ⟨fun a U g mk q => by obtain ⟨q0, q1, qP, qK, qD⟩ := q; exact ⟨q0, q1, qP, va_K.moved (u := U) (U := U.calling g mk a) (Vm.Alike.refl U.vm) qK, qD⟩, va_recv hKc hPc (ci := 13) (q0 := 0) rfl rfl, fun U hU hW => ⟨rfl, by rw [hU], by rw [hU]; exact hPc, va_K.moved hW.alike hKc, hDc.weaken (fun _ _ _ _ => trivial)⟩⟩ rfl rfl hl.1 rfl (lv_room (Nat.le_of_ble_eq_true rfl)) dX13_spellClass_16 ⟨Nat.le_of_ble_eq_true rfl, Nat.le_of_ble_eq_true rfl⟩) hS (fun q _ h => hFc q h) hFc ?_
    clear hS
    intro u t H1 locs ht hvm hw hB hz1 hk1 hS
    obtain ⟨z_2, rfl⟩ : ∃ z, z = u := ⟨_, rfl⟩
    obtain ⟨hP1, hK1, hD1⟩ := hB
    rw [ht] at hP1
    have hK1 := va_K.moved hvm.symm hK1
    try dsimp only at hw
    have hPD := va_join (wr := [(qf25, .inl (cf25, 400, .inl f25))]) (w1 := [(h0, .inr (13, z_2)), (qf6, .inl (cf6, 3002, .inl f6)), (qf5, .inl (cf5, 3002, .inl f5)), (qf2, .inl (cf2, 3000, .inl f2)), (qf65, .inl (cf65, 200, .inl g902_0))]) hP hD [0, 3, 4, 5, 1] [2] rfl rfl (by decide) (by decide) hk1 hFc hP1 hD1
    clear hP hD
    obtain ⟨hP, hD⟩ := hPD
    replace hK := (hK.sub (tys' := [(cf25, .int)]) [1] rfl).app hK1
    clear hPc hDc hKc hFc hP1 hK1 hD1 hz1 hk1 ht hvm
    generalize H1 = H at hP hS ⊢
    replace hP : va_P (dC, dI) vwCl [(qf25, .inl (cf25, 400, .inl f25)), (h0, .inr (13, z_2)), (qf6, .inl (cf6, 3002, .inl f6)), (qf5, .inl (cf5, 3002, .inl f5)), (qf2, .inl (cf2, 3000, .inl f2)), (qf65, .inl (cf65, 200, .inl g902_0))] H := hP
    replace hD : va_D A [(qf25, .inl (cf25, 400, .inl f25)), (h0, .inr (13, z_2)), (qf6, .inl (cf6, 3002, .inl f6)), (qf5, .inl (cf5, 3002, .inl f5)), (qf2, .inl (cf2, 3000, .inl f2)), (qf65, .inl (cf65, 200, .inl g902_0))] := hD
    replace hK : va_K (dC, dI) vwCl [(cf25, .int), (cf6, .int), (cf5, .int), (cf2, .int), (cf65, .int)] s := hK
    obtain ⟨hwa_2, hln_2, hre_2, hch_2_66⟩ := hw
    have hfk_2_2 : z_2[2]? = some (.ref qf2) := (hre_2 2 (by decide)).trans (hf2)
    have hfk_2_5 : z_2[5]? = some (.ref qf5) := (hre_2 5 (by decide)).trans (hf5)
    have hfk_2_6 : z_2[6]? = some (.ref qf6) := (hre_2 6 (by decide)).trans (hf6)
    have hfk_2_25 : z_2[25]? = some (.ref qf25) := (hre_2 25 (by decide)).trans (hf25)
    have hfk_2_65 : z_2[65]? = some (.ref qf65) := (hre_2 65 (by decide)).trans (hf65)
    have hrq_2 : ∀ j : Nat, j ≠ 66 → z_2[j]? = zs[j]? := fun j g66 => (hre_2 j g66).trans (hrs0 j g66)
    have hr0 := Option.some.inj hsp
    clear hsp
    obtain ⟨hq0, hr1⟩ := Prod.mk.inj hr0
    clear hr0
    subst hq0
    subst hr1
    have hP9 := hP.sub (ws' := [(h0, .inr (13, z_2)), (qf65, .inl (cf65, 200, .inl g902_0)), (qf25, .inl (cf25, 400, .inl f25)), (qf6, .inl (cf6, 3002, .inl f6)), (qf5, .inl (cf5, 3002, .inl f5)), (qf2, .inl (cf2, 3000, .inl f2))]) [1, 5, 0, 2, 3, 4] rfl
    have hD9 := hD.sub (ws' := [(h0, .inr (13, z_2)), (qf65, .inl (cf65, 200, .inl g902_0)), (qf25, .inl (cf25, 400, .inl f25)), (qf6, .inl (cf6, 3002, .inl f6)), (qf5, .inl (cf5, 3002, .inl f5)), (qf2, .inl (cf2, 3000, .inl f2))]) [1, 5, 0, 2, 3, 4] (by decide) rfl
    have hK9 := hK.sub (tys' := [(cf65, .int), (cf25, .int), (cf6, .int), (cf5, .int), (cf2, .int)]) [4, 0, 1, 2, 3] rfl
    exact W.vret hx hb hr (fun t ht hW => ⟨⟨(z_2), rfl, ⟨trivial, hln_2, hrq_2, hch_2_66⟩, by rw [ht]; exact hP9, va_K.moved hW.alike hK9, hD9⟩, hS.F ht⟩) hS.2.2 dX13_spellClass_19
def jn_vm_spellKind_54 (nf : Nat) (a1 : Int32) (v66 : Int32) (f65 : Nat → Int32) (f25 : Nat → Int32) (f6 : Nat → Int32) (f5 : Nat → Int32) (f2 : Nat → Int32) (nS477 : Nat) (fS477 : Nat → Int32)  (l1_54 : Int32) (g65_54 : Nat → Int32) (x66_54 : Int32) : Option ((Nat → Int32) × Int32) := (if l1_54 = 4 then ((sp_tm_spell nf 73 x66_54 g65_54).bind (fun p1 => (some (p1.1, p1.2)))) else ((sp_tm_spell nf 76 x66_54 g65_54).bind (fun p2 => ((sp_vm_spellClass nf ((l1_54 - 8) / 2) p2.2 p2.1 f25 f6 f5 f2 nS477 fS477).bind (fun p3 => ((sp_tm_spell nf 59 p3.2 p3.1).bind (fun p4 => (some (p4.1, p4.2)))))))))
def sp_vm_spellKind (nf : Nat) (a1 : Int32) (v66 : Int32) (f65 : Nat → Int32) (f25 : Nat → Int32) (f6 : Nat → Int32) (f5 : Nat → Int32) (f2 : Nat → Int32) (nS477 : Nat) (fS477 : Nat → Int32) : Option ((Nat → Int32) × Int32) := (if a1 = 0 then ((sp_tm_spell nf 73 v66 f65).bind (fun p5 => (some (p5.1, p5.2)))) else (if a1 = 1 then ((sp_tm_spell nf 90 v66 f65).bind (fun p4 => (some (p4.1, p4.2)))) else (if a1 = 3 then ((sp_tm_spell nf 86 v66 f65).bind (fun p3 => (some (p3.1, p3.2)))) else ((sp_tm_isArray nf a1).bind (fun p1 => (if p1 = 0 then (jn_vm_spellKind_54 nf a1 v66 f65 f25 f6 f5 f2 nS477 fS477  a1 f65 v66) else ((sp_tm_spell nf 91 v66 f65).bind (fun p2 => (jn_vm_spellKind_54 nf a1 v66 f65 f25 f6 f5 f2 nS477 fS477  a1 p2.1 p2.2)))))))))
set_option maxHeartbeats 4000000 in
set_option maxRecDepth 100000 in
/-- ClassMillModel.spellKind -/
theorem vm_spellKind (l : Launch) (dC : Nat → ClassId) (dI : Nat → Nat → Nat) (sz : Nat) (h0 : Nat) (zs : (List Value)) (a1 : Int32) (qf2 : Nat) (qf5 : Nat) (qf6 : Nat) (qf25 : Nat) (qf65 : Nat) (v66 : Int32) (cf65 : ClassId) (f65 : (Nat → Int32)) (cf25 : ClassId) (f25 : (Nat → Int32)) (cf6 : ClassId) (f6 : (Nat → Int32)) (cf5 : ClassId) (f5 : (Nat → Int32)) (cf2 : ClassId) (f2 : (Nat → Int32)) (nS477 : Nat) (fS477 : (Nat → Int32)) (hS477 : Nat) (qS477 : Nat) (tS477 : String) (nf : Nat) (o65 : (Nat → Int32)) (w66 : Int32) (hlen : zs.length = 155) (hf2 : zs[2]? = some (.ref qf2)) (hf5 : zs[5]? = some (.ref qf5)) (hf6 : zs[6]? = some (.ref qf6)) (hf25 : zs[25]? = some (.ref qf25)) (hf65 : zs[65]? = some (.ref qf65)) (hf66 : zs[66]? = some (.int v66)) (hsp : sp_vm_spellKind nf a1 v66 f65 f25 f6 f5 f2 nS477 fS477 = some (o65, w66)) : Met l yX13_spellKind (.code yX13_spellKind cX13_spellKind 2 none :: VS_h9) ({ frames := 5, cells := 0, slots := 0, locals := 108 }) (va_Pc [.ref h0, .int a1] (fun U => U.heap.size = sz ∧ va_P (dC, dI) vwCl [(h0, .inr (13, zs)), (qf65, .inl (cf65, 200, .inl f65)), (qf25, .inl (cf25, 400, .inl f25)), (qf6, .inl (cf6, 3002, .inl f6)), (qf5, .inl (cf5, 3002, .inl f5)), (qf2, .inl (cf2, 3000, .inl f2))] U.heap ∧ va_K (dC, dI) vwCl [(cf65, .int), (cf25, .int), (cf6, .int), (cf5, .int), (cf2, .int)] U ∧ va_D (fun _ => True) [(h0, .inr (13, zs)), (qf65, .inl (cf65, 200, .inl f65)), (qf25, .inl (cf25, 400, .inl f25)), (qf6, .inl (cf6, 3002, .inl f6)), (qf5, .inl (cf5, 3002, .inl f5)), (qf2, .inl (cf2, 3000, .inl f2))] ∧ pz_W nS477 fS477 hS477 qS477 (va_A [(h0, .inr (13, zs)), (qf65, .inl (cf65, 200, .inl f65)), (qf25, .inl (cf25, 400, .inl f25)), (qf6, .inl (cf6, 3002, .inl f6)), (qf5, .inl (cf5, 3002, .inl f5)), (qf2, .inl (cf2, 3000, .inl f2))] sz) U U.heap ∧ vk_R RX13 477 tS477 hS477 U)) (va_Qv (fun (u : (List Value)) => match u with | (zo1) => True ∧ zo1.length = 155 ∧ (∀ j : Nat, j ≠ 66 → zo1[j]? = zs[j]?) ∧ zo1[66]? = some (.int w66)) (fun (u : (List Value)) (t : State) => match u with | (zo1) => va_P (dC, dI) vwCl [(h0, .inr (13, zo1)), (qf65, .inl (cf65, 200, .inl o65)), (qf25, .inl (cf25, 400, .inl f25)), (qf6, .inl (cf6, 3002, .inl f6)), (qf5, .inl (cf5, 3002, .inl f5)), (qf2, .inl (cf2, 3000, .inl f2))] t.heap ∧ va_K (dC, dI) vwCl [(cf65, .int), (cf25, .int), (cf6, .int), (cf5, .int), (cf2, .int)] t ∧ va_D (va_A [(h0, .inr (13, zs)), (qf65, .inl (cf65, 200, .inl f65)), (qf25, .inl (cf25, 400, .inl f25)), (qf6, .inl (cf6, 3002, .inl f6)), (qf5, .inl (cf5, 3002, .inl f5)), (qf2, .inl (cf2, 3000, .inl f2))] sz) [(h0, .inr (13, zo1)), (qf65, .inl (cf65, 200, .inl o65)), (qf25, .inl (cf25, 400, .inl f25)), (qf6, .inl (cf6, 3002, .inl f6)), (qf5, .inl (cf5, 3002, .inl f5)), (qf2, .inl (cf2, 3000, .inl f2))]) (va_A [(h0, .inr (13, zs)), (qf65, .inl (cf65, 200, .inl f65)), (qf25, .inl (cf25, 400, .inl f25)), (qf6, .inl (cf6, 3002, .inl f6)), (qf5, .inl (cf5, 3002, .inl f5)), (qf2, .inl (cf2, 3000, .inl f2))] sz)) 0 0 (va_A [(h0, .inr (13, zs)), (qf65, .inl (cf65, 200, .inl f65)), (qf25, .inl (cf25, 400, .inl f25)), (qf6, .inl (cf6, 3002, .inl f6)), (qf5, .inl (cf5, 3002, .inl f5)), (qf2, .inl (cf2, 3000, .inl f2))] sz) := by
  refine Met.ofW (cc := cX13_spellKind) (maxL := 2) (ret := none) (by decide) rfl ?_
  intro p e s m args below meth c s₁ B hml hv
  obtain ⟨rfl, hsz, hP, hK, hD0, hZWS477, hZRS477⟩ := hv
  have hx := B.exec
  have hb := B.bytes
  have hr := B.returns
  have hts := atoms_spec (ws := (.code yX13_spellKind cX13_spellKind 2 none :: VS_h9)) B.pre
  replace hts := fun w (h : w ∈ VS_h9) => hts w (List.mem_cons_of_mem _ h)
  have hown : s.vm.findClass RX13 = some m.cls := findClass_of_methodNamed B.named
  have hlocks := B.notSynchronized
  subst hsz
  have hD := hD0.self (sz := s.heap.size)
  generalize hAe : va_A [(h0, .inr (13, zs)), (qf65, .inl (cf65, 200, .inl f65)), (qf25, .inl (cf25, 400, .inl f25)), (qf6, .inl (cf6, 3002, .inl f6)), (qf5, .inl (cf5, 3002, .inl f5)), (qf2, .inl (cf2, 3000, .inl f2))] s.heap.size = A at hD hZWS477 ⊢
  have hA : ∀ q : Nat, s.heap.size ≤ q → A q := fun q h => by rw [← hAe]; exact Or.inr h
  have hP : va_P (dC, dI) vwCl [(h0, .inr (13, zs)), (qf65, .inl (cf65, 200, .inl f65)), (qf25, .inl (cf25, 400, .inl f25)), (qf6, .inl (cf6, 3002, .inl f6)), (qf5, .inl (cf5, 3002, .inl f5)), (qf2, .inl (cf2, 3000, .inl f2))] s.heap := hP
  have hl := lv_entry ([.ref h0, .int a1]) (n := 2) (Nat.le_of_ble_eq_true rfl)
  rw [lg_entry_eq]
  generalize (lg_sl ([.ref h0, .int a1]) ++ List.replicate (2 - (lg_sl ([.ref h0, .int a1])).length) Slot.unset).toArray = ls at hl ⊢
  have hl : lv_has ls 2 [(0, .ref h0), (1, .int a1)] := hl
  obtain ⟨H, hH⟩ : ∃ H : Heap, s.heap = H := ⟨_, rfl⟩
  rw [hH] at hP ⊢
  have hS : va_S A s.heap H [] := by rw [← hH]; exact va_S.rf
  obtain ⟨locs, hlo⟩ : ∃ locs : List Loc, locs = [] := ⟨_, rfl⟩
  rw [← hlo] at hS ⊢
  have hrs0 : ∀ j : Nat, j ≠ 66 → zs[j]? = zs[j]? := fun _ _  => rfl
  unfold sp_vm_spellKind at hsp
  refine jn_use (α := Heap × List Loc × Array Slot × List Value × Int32 × (Nat → Int32) × Int32) (fun x9 => x9.1) (fun x9 => x9.2.1) (fun x9 => F0 m 54 x9.2.2.1 []) (fun x9 => match x9 with | (H, locs, ls, z54, l1_54, g65_54, x66_54) => lv_has ls 2 [(0, .ref h0), (1, .int l1_54)] ∧ va_S A s.heap H locs ∧ va_D A [(h0, .inr (13, z54)), (qf65, .inl (cf65, 200, .inl g65_54)), (qf25, .inl (cf25, 400, .inl f25)), (qf6, .inl (cf6, 3002, .inl f6)), (qf5, .inl (cf5, 3002, .inl f5)), (qf2, .inl (cf2, 3000, .inl f2))] ∧ va_P (dC, dI) vwCl [(h0, .inr (13, z54)), (qf65, .inl (cf65, 200, .inl g65_54)), (qf25, .inl (cf25, 400, .inl f25)), (qf6, .inl (cf6, 3002, .inl f6)), (qf5, .inl (cf5, 3002, .inl f5)), (qf2, .inl (cf2, 3000, .inl f2))] H ∧ z54[2]? = some (.ref qf2) ∧ z54[5]? = some (.ref qf5) ∧ z54[6]? = some (.ref qf6) ∧ z54[25]? = some (.ref qf25) ∧ z54[65]? = some (.ref qf65) ∧ z54[66]? = some (.int x66_54) ∧ z54.length = 155 ∧ (∀ j : Nat, j ≠ 66 → z54[j]? = zs[j]?) ∧ jn_vm_spellKind_54 nf a1 v66 f65 f25 f6 f5 f2 nS477 fS477 l1_54 g65_54 x66_54 = some (o65, w66)) ?_ ?_
  · intro x9 hJ9
    obtain ⟨H, locs, ls, z54, l1_54, g65_54, x66_54⟩ := x9
    obtain ⟨hl, hS, hD, hP, hfh_54_2, hfh_54_5, hfh_54_6, hfh_54_25, hfh_54_65, hfh_54_66, hlh_54, hrh_54, hsp⟩ := hJ9
    replace hl : lv_has ls 2 [(0, .ref h0), (1, .int l1_54)] := hl
    replace hS : va_S A s.heap H locs := hS
    replace hD : va_D A [(h0, .inr (13, z54)), (qf65, .inl (cf65, 200, .inl g65_54)), (qf25, .inl (cf25, 400, .inl f25)), (qf6, .inl (cf6, 3002, .inl f6)), (qf5, .inl (cf5, 3002, .inl f5)), (qf2, .inl (cf2, 3000, .inl f2))] := hD
    replace hP : va_P (dC, dI) vwCl [(h0, .inr (13, z54)), (qf65, .inl (cf65, 200, .inl g65_54)), (qf25, .inl (cf25, 400, .inl f25)), (qf6, .inl (cf6, 3002, .inl f6)), (qf5, .inl (cf5, 3002, .inl f5)), (qf2, .inl (cf2, 3000, .inl f2))] H := hP
    replace hsp : jn_vm_spellKind_54 nf a1 v66 f65 f25 f6 f5 f2 nS477 fS477 l1_54 g65_54 x66_54 = some (o65, w66) := hsp
    show W _ _ _ _ _ _ _ _ _ _ H locs _ _ _ (F0 m 54 ls [])
    unfold jn_vm_spellKind_54 at hsp
    try dsimp only at hsp
    refine lv_iload_n hx hb dX13_spellKind_54 rfl (lv_at hl 1 rfl) ?_
    refine lv_iconst (v := 4) hx hb dX13_spellKind_55 (by decide) ?_
    refine lv_icmp_ne (tgt := 66) hx hb dX13_spellKind_56 (by decide) (fun c_7 => ?_) (fun c_7 => ?_)
    · rw [if_neg c_7] at hsp
      refine lv_aload_n hx hb dX13_spellKind_66 rfl (lv_at hl 0 rfl) ?_
      refine lv_bipush (v := 76) hx hb dX13_spellKind_67 (by decide) ?_
      obtain ⟨⟨g906_0, u6_1⟩, hu_6, hsp⟩ := ox_bind hsp
      try dsimp only at hsp
      have hPc := hP.sub (ws' := [(h0, .inr (13, z54)), (qf65, .inl (cf65, 200, .inl g65_54))]) [0, 1] rfl
      have hDc := hD.sub (ws' := [(h0, .inr (13, z54)), (qf65, .inl (cf65, 200, .inl g65_54))]) [0, 1] (by decide) rfl
      have hKc := hK.sub (tys' := [(cf65, .int)]) [0] rfl
      have hFc := va_free (wc := [(h0, .inr (13, z54)), (qf65, .inl (cf65, 200, .inl g65_54))]) hD hS hA [0, 1] rfl
      refine va_callv (va_runV (As := [.int 76]) (rest := []) ⟨hx, hb, hml, hown, hts⟩ (tm_spell l dC dI H.size h0 z54 76 qf65 x66_54 cf65 g65_54 nf g906_0 u6_1 hlh_54 hfh_54_65 hfh_54_66 hu_6) (cwV 1 hts gv_h9_27 rfl rfl rfl (by decide +kernel) ⟨Nat.le_of_ble_eq_true rfl, Nat.le_of_ble_eq_true rfl⟩) ⟨fun a U g mk q => by obtain ⟨q0, q1, qP, qK, qD⟩ := q; exact ⟨q0, q1, qP, va_K.moved (u := U) (U := U.calling g mk a) (Vm.Alike.refl U.vm) qK, qD⟩, va_recv hKc hPc (ci := 13) (q0 := 0) rfl rfl, fun U hU hW => ⟨rfl, by rw [hU], by rw [hU]; exact hPc, va_K.moved hW.alike hKc, hDc.weaken (fun _ _ _ _ => trivial)⟩⟩ rfl rfl hl.1 rfl (lv_room (Nat.le_of_ble_eq_true rfl)) dX13_spellKind_69 ⟨Nat.le_of_ble_eq_true rfl, Nat.le_of_ble_eq_true rfl⟩) hS (fun q _ h => hFc q h) hFc ?_
      clear hS
      intro u t H1 locs ht hvm hw hB hz1 hk1 hS
      obtain ⟨z_6, rfl⟩ : ∃ z, z = u := ⟨_, rfl⟩
      obtain ⟨hP1, hK1, hD1⟩ := hB
      rw [ht] at hP1
      have hK1 := va_K.moved hvm.symm hK1
      try dsimp only at hw
      have hPD := va_join (wr := [(qf25, .inl (cf25, 400, .inl f25)), (qf6, .inl (cf6, 3002, .inl f6)), (qf5, .inl (cf5, 3002, .inl f5)), (qf2, .inl (cf2, 3000, .inl f2))]) (w1 := [(h0, .inr (13, z_6)), (qf65, .inl (cf65, 200, .inl g906_0))]) hP hD [0, 1] [2, 3, 4, 5] rfl rfl (by decide) (by decide) hk1 hFc hP1 hD1
      clear hP hD
      obtain ⟨hP, hD⟩ := hPD
      replace hK := (hK.sub (tys' := [(cf25, .int), (cf6, .int), (cf5, .int), (cf2, .int)]) [1, 2, 3, 4] rfl).app hK1
      clear hPc hDc hKc hFc hP1 hK1 hD1 hz1 hk1 ht hvm
      generalize H1 = H at hP hS ⊢
      replace hP : va_P (dC, dI) vwCl [(qf25, .inl (cf25, 400, .inl f25)), (qf6, .inl (cf6, 3002, .inl f6)), (qf5, .inl (cf5, 3002, .inl f5)), (qf2, .inl (cf2, 3000, .inl f2)), (h0, .inr (13, z_6)), (qf65, .inl (cf65, 200, .inl g906_0))] H := hP
      replace hD : va_D A [(qf25, .inl (cf25, 400, .inl f25)), (qf6, .inl (cf6, 3002, .inl f6)), (qf5, .inl (cf5, 3002, .inl f5)), (qf2, .inl (cf2, 3000, .inl f2)), (h0, .inr (13, z_6)), (qf65, .inl (cf65, 200, .inl g906_0))] := hD
      replace hK : va_K (dC, dI) vwCl [(cf25, .int), (cf6, .int), (cf5, .int), (cf2, .int), (cf65, .int)] s := hK
      obtain ⟨hwa_6, hln_6, hre_6, hch_6_66⟩ := hw
      have hfk_6_2 : z_6[2]? = some (.ref qf2) := (hre_6 2 (by decide)).trans (hfh_54_2)
      have hfk_6_5 : z_6[5]? = some (.ref qf5) := (hre_6 5 (by decide)).trans (hfh_54_5)
      have hfk_6_6 : z_6[6]? = some (.ref qf6) := (hre_6 6 (by decide)).trans (hfh_54_6)
      have hfk_6_25 : z_6[25]? = some (.ref qf25) := (hre_6 25 (by decide)).trans (hfh_54_25)
      have hfk_6_65 : z_6[65]? = some (.ref qf65) := (hre_6 65 (by decide)).trans (hfh_54_65)
      have hrq_6 : ∀ j : Nat, j ≠ 66 → z_6[j]? = zs[j]? := fun j g66 => (hre_6 j g66).trans (hrh_54 j g66)
      refine lv_aload_n hx hb dX13_spellKind_72 rfl (lv_at hl 0 rfl) ?_
      refine lv_iload_n hx hb dX13_spellKind_73 rfl (lv_at hl 1 rfl) ?_
      refine lv_bipush (v := 8) hx hb dX13_spellKind_74 (by decide) ?_
      refine lv_isub hx hb dX13_spellKind_76 ?_
      refine lv_iconst (v := 2) hx hb dX13_spellKind_77 (by decide) ?_
      refine lv_idiv hx hb dX13_spellKind_78 (by decide) ?_
      obtain ⟨⟨g907_0, u7_1⟩, hu_7, hsp⟩ := ox_bind hsp
      try dsimp only at hsp
      have hPc := hP.sub (ws' := [(h0, .inr (13, z_6)), (qf65, .inl (cf65, 200, .inl g906_0)), (qf25, .inl (cf25, 400, .inl f25)), (qf6, .inl (cf6, 3002, .inl f6)), (qf5, .inl (cf5, 3002, .inl f5)), (qf2, .inl (cf2, 3000, .inl f2))]) [4, 5, 0, 1, 2, 3] rfl
      have hDc := hD.sub (ws' := [(h0, .inr (13, z_6)), (qf65, .inl (cf65, 200, .inl g906_0)), (qf25, .inl (cf25, 400, .inl f25)), (qf6, .inl (cf6, 3002, .inl f6)), (qf5, .inl (cf5, 3002, .inl f5)), (qf2, .inl (cf2, 3000, .inl f2))]) [4, 5, 0, 1, 2, 3] (by decide) rfl
      have hKc := hK.sub (tys' := [(cf65, .int), (cf25, .int), (cf6, .int), (cf5, .int), (cf2, .int)]) [4, 0, 1, 2, 3] rfl
      have hFc := va_free (wc := [(h0, .inr (13, z_6)), (qf65, .inl (cf65, 200, .inl g906_0)), (qf25, .inl (cf25, 400, .inl f25)), (qf6, .inl (cf6, 3002, .inl f6)), (qf5, .inl (cf5, 3002, .inl f5)), (qf2, .inl (cf2, 3000, .inl f2))]) hD hS hA [4, 5, 0, 1, 2, 3] rfl
      refine va_callv (va_runV (As := [.int ((l1_54 - 8) / 2)]) (rest := []) ⟨hx, hb, hml, hown, hts⟩ (vm_spellClass l dC dI H.size h0 z_6 (((l1_54 - 8) / 2)) qf2 qf5 qf6 qf25 qf65 u6_1 cf65 g906_0 cf25 f25 cf6 f6 cf5 f5 cf2 f2 nS477 fS477 hS477 qS477 tS477 nf g907_0 u7_1 hln_6 hfk_6_2 hfk_6_5 hfk_6_6 hfk_6_25 hfk_6_65 hch_6_66 hu_7) (cwV 1 hts gv_h9_29 rfl rfl rfl (by decide +kernel) ⟨Nat.le_of_ble_eq_true rfl, Nat.le_of_ble_eq_true rfl⟩) ⟨fun a U g mk q => by obtain ⟨q0, q1, qP, qK, qD, qhZWS477, qhZRS477⟩ := q; exact ⟨q0, q1, qP, va_K.moved (u := U) (U := U.calling g mk a) (Vm.Alike.refl U.vm) qK, qD, pz_W.moved (u := U) (U := U.calling g mk a) (Vm.Alike.refl U.vm) qhZWS477, vk_R.same rfl qhZRS477⟩, va_recv hKc hPc (ci := 13) (q0 := 0) rfl rfl, fun U hU hW => ⟨rfl, by rw [hU], by rw [hU]; exact hPc, va_K.moved hW.alike hKc, hDc.weaken (fun _ _ _ _ => trivial), by rw [hU]; exact ((pz_W.moved hW.alike hZWS477).kept hS.2.1).narrow hFc, vk_R.warm hW hZRS477⟩⟩ rfl rfl hl.1 rfl (lv_room (Nat.le_of_ble_eq_true rfl)) dX13_spellKind_79 ⟨Nat.le_of_ble_eq_true rfl, Nat.le_of_ble_eq_true rfl⟩) hS (fun q _ h => hFc q h) hFc ?_
      clear hS
      intro u t H1 locs ht hvm hw hB hz1 hk1 hS
      obtain ⟨z_7, rfl⟩ : ∃ z, z = u := ⟨_, rfl⟩
      obtain ⟨hP1, hK1, hD1⟩ := hB
      rw [ht] at hP1
      have hK1 := va_K.moved hvm.symm hK1
      try dsimp only at hw
      have hPD := va_join (wr := []) (w1 := [(h0, .inr (13, z_7)), (qf65, .inl (cf65, 200, .inl g907_0)), (qf25, .inl (cf25, 400, .inl f25)), (qf6, .inl (cf6, 3002, .inl f6)), (qf5, .inl (cf5, 3002, .inl f5)), (qf2, .inl (cf2, 3000, .inl f2))]) hP hD [4, 5, 0, 1, 2, 3] [] rfl rfl (by decide) (by decide) hk1 hFc hP1 hD1
      clear hP hD
      obtain ⟨hP, hD⟩ := hPD
      replace hK := (hK.sub (tys' := []) [] rfl).app hK1
      clear hPc hDc hKc hFc hP1 hK1 hD1 hz1 hk1 ht hvm
      generalize H1 = H at hP hS ⊢
      replace hP : va_P (dC, dI) vwCl [(h0, .inr (13, z_7)), (qf65, .inl (cf65, 200, .inl g907_0)), (qf25, .inl (cf25, 400, .inl f25)), (qf6, .inl (cf6, 3002, .inl f6)), (qf5, .inl (cf5, 3002, .inl f5)), (qf2, .inl (cf2, 3000, .inl f2))] H := hP
      replace hD : va_D A [(h0, .inr (13, z_7)), (qf65, .inl (cf65, 200, .inl g907_0)), (qf25, .inl (cf25, 400, .inl f25)), (qf6, .inl (cf6, 3002, .inl f6)), (qf5, .inl (cf5, 3002, .inl f5)), (qf2, .inl (cf2, 3000, .inl f2))] := hD
      replace hK : va_K (dC, dI) vwCl [(cf65, .int), (cf25, .int), (cf6, .int), (cf5, .int), (cf2, .int)] s := hK
      obtain ⟨hwa_7, hln_7, hre_7, hch_7_66⟩ := hw
      have hfk_7_2 : z_7[2]? = some (.ref qf2) := (hre_7 2 (by decide)).trans (hfk_6_2)
      have hfk_7_5 : z_7[5]? = some (.ref qf5) := (hre_7 5 (by decide)).trans (hfk_6_5)
      have hfk_7_6 : z_7[6]? = some (.ref qf6) := (hre_7 6 (by decide)).trans (hfk_6_6)
      have hfk_7_25 : z_7[25]? = some (.ref qf25) := (hre_7 25 (by decide)).trans (hfk_6_25)
      have hfk_7_65 : z_7[65]? = some (.ref qf65) := (hre_7 65 (by decide)).trans (hfk_6_65)
      have hrq_7 : ∀ j : Nat, j ≠ 66 → z_7[j]? = zs[j]? := fun j g66 => (hre_7 j g66).trans (hrq_6 j g66)
      refine lv_aload_n hx hb dX13_spellKind_82 rfl (lv_at hl 0 rfl) ?_
      refine lv_bipush (v := 59) hx hb dX13_spellKind_83 (by decide) ?_
      obtain ⟨⟨g908_0, u8_1⟩, hu_8, hsp⟩ := ox_bind hsp
      try dsimp only at hsp
      have hPc := hP.sub (ws' := [(h0, .inr (13, z_7)), (qf65, .inl (cf65, 200, .inl g907_0))]) [0, 1] rfl
      have hDc := hD.sub (ws' := [(h0, .inr (13, z_7)), (qf65, .inl (cf65, 200, .inl g907_0))]) [0, 1] (by decide) rfl
      have hKc := hK.sub (tys' := [(cf65, .int)]) [0] rfl
      have hFc := va_free (wc := [(h0, .inr (13, z_7)), (qf65, .inl (cf65, 200, .inl g907_0))]) hD hS hA [0, 1] rfl
      refine va_callv (va_runV (As := [.int 59]) (rest := []) ⟨hx, hb, hml, hown, hts⟩ (tm_spell l dC dI H.size h0 z_7 59 qf65 u7_1 cf65 g907_0 nf g908_0 u8_1 hln_7 hfk_7_65 hch_7_66 hu_8) (cwV 1 hts gv_h9_27 rfl rfl rfl (by decide +kernel) ⟨Nat.le_of_ble_eq_true rfl, Nat.le_of_ble_eq_true rfl⟩) ⟨fun a U g mk q => by obtain ⟨q0, q1, qP, qK, qD⟩ := q; exact ⟨q0, q1, qP, va_K.moved (u := U) (U := U.calling g mk a) (Vm.Alike.refl U.vm) qK, qD⟩, va_recv hKc hPc (ci := 13) (q0 := 0) rfl rfl, fun U hU hW => ⟨rfl, by rw [hU], by rw [hU]; exact hPc, va_K.moved hW.alike hKc, hDc.weaken (fun _ _ _ _ => trivial)⟩⟩ rfl rfl hl.1 rfl (lv_room (Nat.le_of_ble_eq_true rfl)) dX13_spellKind_85 ⟨Nat.le_of_ble_eq_true rfl, Nat.le_of_ble_eq_true rfl⟩) hS (fun q _ h => hFc q h) hFc ?_
      clear hS
      intro u t H1 locs ht hvm hw hB hz1 hk1 hS
      obtain ⟨z_8, rfl⟩ : ∃ z, z = u := ⟨_, rfl⟩
      obtain ⟨hP1, hK1, hD1⟩ := hB
      rw [ht] at hP1
      have hK1 := va_K.moved hvm.symm hK1
      try dsimp only at hw
      have hPD := va_join (wr := [(qf25, .inl (cf25, 400, .inl f25)), (qf6, .inl (cf6, 3002, .inl f6)), (qf5, .inl (cf5, 3002, .inl f5)), (qf2, .inl (cf2, 3000, .inl f2))]) (w1 := [(h0, .inr (13, z_8)), (qf65, .inl (cf65, 200, .inl g908_0))]) hP hD [0, 1] [2, 3, 4, 5] rfl rfl (by decide) (by decide) hk1 hFc hP1 hD1
      clear hP hD
      obtain ⟨hP, hD⟩ := hPD
      replace hK := (hK.sub (tys' := [(cf25, .int), (cf6, .int), (cf5, .int), (cf2, .int)]) [1, 2, 3, 4] rfl).app hK1
      clear hPc hDc hKc hFc hP1 hK1 hD1 hz1 hk1 ht hvm
      generalize H1 = H at hP hS ⊢
      replace hP : va_P (dC, dI) vwCl [(qf25, .inl (cf25, 400, .inl f25)), (qf6, .inl (cf6, 3002, .inl f6)), (qf5, .inl (cf5, 3002, .inl f5)), (qf2, .inl (cf2, 3000, .inl f2)), (h0, .inr (13, z_8)), (qf65, .inl (cf65, 200, .inl g908_0))] H := hP
      replace hD : va_D A [(qf25, .inl (cf25, 400, .inl f25)), (qf6, .inl (cf6, 3002, .inl f6)), (qf5, .inl (cf5, 3002, .inl f5)), (qf2, .inl (cf2, 3000, .inl f2)), (h0, .inr (13, z_8)), (qf65, .inl (cf65, 200, .inl g908_0))] := hD
      replace hK : va_K (dC, dI) vwCl [(cf25, .int), (cf6, .int), (cf5, .int), (cf2, .int), (cf65, .int)] s := hK
      obtain ⟨hwa_8, hln_8, hre_8, hch_8_66⟩ := hw
      have hfk_8_2 : z_8[2]? = some (.ref qf2) := (hre_8 2 (by decide)).trans (hfk_7_2)
      have hfk_8_5 : z_8[5]? = some (.ref qf5) := (hre_8 5 (by decide)).trans (hfk_7_5)
      have hfk_8_6 : z_8[6]? = some (.ref qf6) := (hre_8 6 (by decide)).trans (hfk_7_6)
      have hfk_8_25 : z_8[25]? = some (.ref qf25) := (hre_8 25 (by decide)).trans (hfk_7_25)
      have hfk_8_65 : z_8[65]? = some (.ref qf65) := (hre_8 65 (by decide)).trans (hfk_7_65)
      have hrq_8 : ∀ j : Nat, j ≠ 66 → z_8[j]? = zs[j]? := fun j g66 => (hre_8 j g66).trans (hrq_7 j g66)
      have hr0 := Option.some.inj hsp
      clear hsp
      obtain ⟨hq0, hr1⟩ := Prod.mk.inj hr0
      clear hr0
      subst hq0
      subst hr1
      have hP9 := hP.sub (ws' := [(h0, .inr (13, z_8)), (qf65, .inl (cf65, 200, .inl g908_0)), (qf25, .inl (cf25, 400, .inl f25)), (qf6, .inl (cf6, 3002, .inl f6)), (qf5, .inl (cf5, 3002, .inl f5)), (qf2, .inl (cf2, 3000, .inl f2))]) [4, 5, 0, 1, 2, 3] rfl
      have hD9 := hD.sub (ws' := [(h0, .inr (13, z_8)), (qf65, .inl (cf65, 200, .inl g908_0)), (qf25, .inl (cf25, 400, .inl f25)), (qf6, .inl (cf6, 3002, .inl f6)), (qf5, .inl (cf5, 3002, .inl f5)), (qf2, .inl (cf2, 3000, .inl f2))]) [4, 5, 0, 1, 2, 3] (by decide) rfl
      have hK9 := hK.sub (tys' := [(cf65, .int), (cf25, .int), (cf6, .int), (cf5, .int), (cf2, .int)]) [4, 0, 1, 2, 3] rfl
      exact W.vret hx hb hr (fun t ht hW => ⟨⟨(z_8), rfl, ⟨trivial, hln_8, hrq_8, hch_8_66⟩, by rw [ht]; exact hP9, va_K.moved hW.alike hK9, hD9⟩, hS.F ht⟩) hS.2.2 dX13_spellKind_88
    · rw [if_pos c_7] at hsp
      refine lv_aload_n hx hb dX13_spellKind_59 rfl (lv_at hl 0 rfl) ?_
      refine lv_bipush (v := 73) hx hb dX13_spellKind_60 (by decide) ?_
      obtain ⟨⟨g909_0, u9_1⟩, hu_9, hsp⟩ := ox_bind hsp
      try dsimp only at hsp
      have hPc := hP.sub (ws' := [(h0, .inr (13, z54)), (qf65, .inl (cf65, 200, .inl g65_54))]) [0, 1] rfl
      have hDc := hD.sub (ws' := [(h0, .inr (13, z54)), (qf65, .inl (cf65, 200, .inl g65_54))]) [0, 1] (by decide) rfl
      have hKc := hK.sub (tys' := [(cf65, .int)]) [0] rfl
      have hFc := va_free (wc := [(h0, .inr (13, z54)), (qf65, .inl (cf65, 200, .inl g65_54))]) hD hS hA [0, 1] rfl
      refine va_callv (va_runV (As := [.int 73]) (rest := []) ⟨hx, hb, hml, hown, hts⟩ (tm_spell l dC dI H.size h0 z54 73 qf65 x66_54 cf65 g65_54 nf g909_0 u9_1 hlh_54 hfh_54_65 hfh_54_66 hu_9) (cwV 1 hts gv_h9_27 rfl rfl rfl (by decide +kernel) ⟨Nat.le_of_ble_eq_true rfl, Nat.le_of_ble_eq_true rfl⟩) ⟨fun a U g mk q => by obtain ⟨q0, q1, qP, qK, qD⟩ := q; exact ⟨q0, q1, qP, va_K.moved (u := U) (U := U.calling g mk a) (Vm.Alike.refl U.vm) qK, qD⟩, va_recv hKc hPc (ci := 13) (q0 := 0) rfl rfl, fun U hU hW => ⟨rfl, by rw [hU], by rw [hU]; exact hPc, va_K.moved hW.alike hKc, hDc.weaken (fun _ _ _ _ => trivial)⟩⟩ rfl rfl hl.1 rfl (lv_room (Nat.le_of_ble_eq_true rfl)) dX13_spellKind_62 ⟨Nat.le_of_ble_eq_true rfl, Nat.le_of_ble_eq_true rfl⟩) hS (fun q _ h => hFc q h) hFc ?_
      clear hS
      intro u t H1 locs ht hvm hw hB hz1 hk1 hS
      obtain ⟨z_9, rfl⟩ : ∃ z, z = u := ⟨_, rfl⟩
      obtain ⟨hP1, hK1, hD1⟩ := hB
      rw [ht] at hP1
      have hK1 := va_K.moved hvm.symm hK1
      try dsimp only at hw
      have hPD := va_join (wr := [(qf25, .inl (cf25, 400, .inl f25)), (qf6, .inl (cf6, 3002, .inl f6)), (qf5, .inl (cf5, 3002, .inl f5)), (qf2, .inl (cf2, 3000, .inl f2))]) (w1 := [(h0, .inr (13, z_9)), (qf65, .inl (cf65, 200, .inl g909_0))]) hP hD [0, 1] [2, 3, 4, 5] rfl rfl (by decide) (by decide) hk1 hFc hP1 hD1
      clear hP hD
      obtain ⟨hP, hD⟩ := hPD
      replace hK := (hK.sub (tys' := [(cf25, .int), (cf6, .int), (cf5, .int), (cf2, .int)]) [1, 2, 3, 4] rfl).app hK1
      clear hPc hDc hKc hFc hP1 hK1 hD1 hz1 hk1 ht hvm
      generalize H1 = H at hP hS ⊢
      replace hP : va_P (dC, dI) vwCl [(qf25, .inl (cf25, 400, .inl f25)), (qf6, .inl (cf6, 3002, .inl f6)), (qf5, .inl (cf5, 3002, .inl f5)), (qf2, .inl (cf2, 3000, .inl f2)), (h0, .inr (13, z_9)), (qf65, .inl (cf65, 200, .inl g909_0))] H := hP
      replace hD : va_D A [(qf25, .inl (cf25, 400, .inl f25)), (qf6, .inl (cf6, 3002, .inl f6)), (qf5, .inl (cf5, 3002, .inl f5)), (qf2, .inl (cf2, 3000, .inl f2)), (h0, .inr (13, z_9)), (qf65, .inl (cf65, 200, .inl g909_0))] := hD
      replace hK : va_K (dC, dI) vwCl [(cf25, .int), (cf6, .int), (cf5, .int), (cf2, .int), (cf65, .int)] s := hK
      obtain ⟨hwa_9, hln_9, hre_9, hch_9_66⟩ := hw
      have hfk_9_2 : z_9[2]? = some (.ref qf2) := (hre_9 2 (by decide)).trans (hfh_54_2)
      have hfk_9_5 : z_9[5]? = some (.ref qf5) := (hre_9 5 (by decide)).trans (hfh_54_5)
      have hfk_9_6 : z_9[6]? = some (.ref qf6) := (hre_9 6 (by decide)).trans (hfh_54_6)
      have hfk_9_25 : z_9[25]? = some (.ref qf25) := (hre_9 25 (by decide)).trans (hfh_54_25)
      have hfk_9_65 : z_9[65]? = some (.ref qf65) := (hre_9 65 (by decide)).trans (hfh_54_65)
      have hrq_9 : ∀ j : Nat, j ≠ 66 → z_9[j]? = zs[j]? := fun j g66 => (hre_9 j g66).trans (hrh_54 j g66)
      have hr0 := Option.some.inj hsp
      clear hsp
      obtain ⟨hq0, hr1⟩ := Prod.mk.inj hr0
      clear hr0
      subst hq0
      subst hr1
      have hP9 := hP.sub (ws' := [(h0, .inr (13, z_9)), (qf65, .inl (cf65, 200, .inl g909_0)), (qf25, .inl (cf25, 400, .inl f25)), (qf6, .inl (cf6, 3002, .inl f6)), (qf5, .inl (cf5, 3002, .inl f5)), (qf2, .inl (cf2, 3000, .inl f2))]) [4, 5, 0, 1, 2, 3] rfl
      have hD9 := hD.sub (ws' := [(h0, .inr (13, z_9)), (qf65, .inl (cf65, 200, .inl g909_0)), (qf25, .inl (cf25, 400, .inl f25)), (qf6, .inl (cf6, 3002, .inl f6)), (qf5, .inl (cf5, 3002, .inl f5)), (qf2, .inl (cf2, 3000, .inl f2))]) [4, 5, 0, 1, 2, 3] (by decide) rfl
      have hK9 := hK.sub (tys' := [(cf65, .int), (cf25, .int), (cf6, .int), (cf5, .int), (cf2, .int)]) [4, 0, 1, 2, 3] rfl
      exact W.vret hx hb hr (fun t ht hW => ⟨⟨(z_9), rfl, ⟨trivial, hln_9, hrq_9, hch_9_66⟩, by rw [ht]; exact hP9, va_K.moved hW.alike hK9, hD9⟩, hS.F ht⟩) hS.2.2 dX13_spellKind_65
  intro hj_54
  refine lv_iload_n hx hb dX13_spellKind_0 rfl (lv_at hl 1 rfl) ?_
  refine lv_if_ne (tgt := 13) hx hb dX13_spellKind_1 (by decide) (fun c_1 => ?_) (fun c_1 => ?_)
  · rw [if_neg c_1] at hsp
    refine lv_iload_n hx hb dX13_spellKind_13 rfl (lv_at hl 1 rfl) ?_
    refine lv_iconst (v := 1) hx hb dX13_spellKind_14 (by decide) ?_
    refine lv_icmp_ne (tgt := 27) hx hb dX13_spellKind_15 (by decide) (fun c_2 => ?_) (fun c_2 => ?_)
    · rw [if_neg c_2] at hsp
      refine lv_iload_n hx hb dX13_spellKind_27 rfl (lv_at hl 1 rfl) ?_
      refine lv_iconst (v := 3) hx hb dX13_spellKind_28 (by decide) ?_
      refine lv_icmp_ne (tgt := 41) hx hb dX13_spellKind_29 (by decide) (fun c_3 => ?_) (fun c_3 => ?_)
      · rw [if_neg c_3] at hsp
        refine lv_iload_n hx hb dX13_spellKind_41 rfl (lv_at hl 1 rfl) ?_
        obtain ⟨u1_0, hu_1, hsp⟩ := ox_bind hsp
        try dsimp only at hsp
        have hPc := hP.sub (ws' := []) [] rfl
        have hDc := hD.sub (ws' := []) [] (by decide) rfl
        have hKc := hK.sub (tys' := []) [] rfl
        have hFc := va_free (wc := []) hD hS hA [] rfl
        refine va_calli (va_runS (As := [.int a1]) (rest := []) ⟨hx, hb, hml, hown, hts⟩ (tm_isArray l dC dI H.size a1 nf u1_0 hu_1) (va_cwS 1 hts gv_h9_26 rfl rfl rfl (by decide +kernel) ⟨Nat.le_of_ble_eq_true rfl, Nat.le_of_ble_eq_true rfl⟩) ⟨fun a U g mk q => by obtain ⟨q0, q1, qP, qK, qD⟩ := q; exact ⟨q0, q1, qP, va_K.moved (u := U) (U := U.calling g mk a) (Vm.Alike.refl U.vm) qK, qD⟩, fun U hU hW => ⟨rfl, by rw [hU], by rw [hU]; exact hPc, va_K.moved hW.alike hKc, hDc.weaken (fun _ _ _ _ => trivial)⟩⟩ rfl rfl hl.1 rfl (lv_room (Nat.le_of_ble_eq_true rfl)) dX13_spellKind_42 ⟨Nat.le_of_ble_eq_true rfl, Nat.le_of_ble_eq_true rfl⟩) hS (fun q _ h => hFc q h) hFc ?_
        clear hS
        intro r_4 u t H1 locs ht hvm hw hB hz1 hk1 hS
        obtain ⟨⟩ := u
        obtain ⟨hP1, hK1, hD1⟩ := hB
        rw [ht] at hP1
        have hK1 := va_K.moved hvm.symm hK1
        try dsimp only at hw
        have hPD := va_join (wr := [(h0, .inr (13, zs)), (qf65, .inl (cf65, 200, .inl f65)), (qf25, .inl (cf25, 400, .inl f25)), (qf6, .inl (cf6, 3002, .inl f6)), (qf5, .inl (cf5, 3002, .inl f5)), (qf2, .inl (cf2, 3000, .inl f2))]) (w1 := []) hP hD [] [0, 1, 2, 3, 4, 5] rfl rfl (by decide) (by decide) hk1 hFc hP1 hD1
        clear hP hD
        obtain ⟨hP, hD⟩ := hPD
        replace hK := (hK.sub (tys' := [(cf65, .int), (cf25, .int), (cf6, .int), (cf5, .int), (cf2, .int)]) [0, 1, 2, 3, 4] rfl).app hK1
        clear hPc hDc hKc hFc hP1 hK1 hD1 hz1 hk1 ht hvm
        generalize H1 = H at hP hS ⊢
        replace hP : va_P (dC, dI) vwCl [(h0, .inr (13, zs)), (qf65, .inl (cf65, 200, .inl f65)), (qf25, .inl (cf25, 400, .inl f25)), (qf6, .inl (cf6, 3002, .inl f6)), (qf5, .inl (cf5, 3002, .inl f5)), (qf2, .inl (cf2, 3000, .inl f2))] H := hP
        replace hD : va_D A [(h0, .inr (13, zs)), (qf65, .inl (cf65, 200, .inl f65)), (qf25, .inl (cf25, 400, .inl f25)), (qf6, .inl (cf6, 3002, .inl f6)), (qf5, .inl (cf5, 3002, .inl f5)), (qf2, .inl (cf2, 3000, .inl f2))] := hD
        replace hK : va_K (dC, dI) vwCl [(cf65, .int), (cf25, .int), (cf6, .int), (cf5, .int), (cf2, .int)] s := hK
        obtain ⟨rfl, hz_1⟩ := hw
        rcases hz_1 with rfl | rfl
        · rw [if_pos rfl] at hsp
          refine lv_if_eq (tgt := 54) hx hb dX13_spellKind_45 (by decide) (fun c_5 => ?_) (fun c_5 => (show False by revert c_5; decide).elim)
          exact hj_54 (H, locs, ls, zs, a1, f65, v66) ⟨lv_sub hl [0, 1] rfl, hS, hD.sub (ws' := [(h0, .inr (13, zs)), (qf65, .inl (cf65, 200, .inl f65)), (qf25, .inl (cf25, 400, .inl f25)), (qf6, .inl (cf6, 3002, .inl f6)), (qf5, .inl (cf5, 3002, .inl f5)), (qf2, .inl (cf2, 3000, .inl f2))]) [0, 1, 2, 3, 4, 5] (by decide) rfl, hP.sub (ws' := [(h0, .inr (13, zs)), (qf65, .inl (cf65, 200, .inl f65)), (qf25, .inl (cf25, 400, .inl f25)), (qf6, .inl (cf6, 3002, .inl f6)), (qf5, .inl (cf5, 3002, .inl f5)), (qf2, .inl (cf2, 3000, .inl f2))]) [0, 1, 2, 3, 4, 5] rfl, hf2, hf5, hf6, hf25, hf65, hf66, hlen, hrs0, hsp⟩
        · rw [if_neg (by decide)] at hsp
          refine lv_if_eq (tgt := 54) hx hb dX13_spellKind_45 (by decide) (fun c_6 => (show False by revert c_6; decide).elim) (fun c_6 => ?_)
          refine lv_aload_n hx hb dX13_spellKind_48 rfl (lv_at hl 0 rfl) ?_
          refine lv_bipush (v := 91) hx hb dX13_spellKind_49 (by decide) ?_
          obtain ⟨⟨g902_0, u2_1⟩, hu_2, hsp⟩ := ox_bind hsp
          try dsimp only at hsp
          have hPc := hP.sub (ws' := [(h0, .inr (13, zs)), (qf65, .inl (cf65, 200, .inl f65))]) [0, 1] rfl
          have hDc := hD.sub (ws' := [(h0, .inr (13, zs)), (qf65, .inl (cf65, 200, .inl f65))]) [0, 1] (by decide) rfl
          have hKc := hK.sub (tys' := [(cf65, .int)]) [0] rfl
          have hFc := va_free (wc := [(h0, .inr (13, zs)), (qf65, .inl (cf65, 200, .inl f65))]) hD hS hA [0, 1] rfl
          refine va_callv (va_runV (As := [.int 91]) (rest := []) ⟨hx, hb, hml, hown, hts⟩ (tm_spell l dC dI H.size h0 zs 91 qf65 v66 cf65 f65 nf g902_0 u2_1 hlen hf65 hf66 hu_2) (cwV 1 hts gv_h9_27 rfl rfl rfl (by decide +kernel) ⟨Nat.le_of_ble_eq_true rfl, Nat.le_of_ble_eq_true rfl⟩) ⟨fun a U g mk q => by obtain ⟨q0, q1, qP, qK, qD⟩ := q; exact ⟨q0, q1, qP, va_K.moved (u := U) (U := U.calling g mk a) (Vm.Alike.refl U.vm) qK, qD⟩, va_recv hKc hPc (ci := 13) (q0 := 0) rfl rfl, fun U hU hW => ⟨rfl, by rw [hU], by rw [hU]; exact hPc, va_K.moved hW.alike hKc, hDc.weaken (fun _ _ _ _ => trivial)⟩⟩ rfl rfl hl.1 rfl (lv_room (Nat.le_of_ble_eq_true rfl)) dX13_spellKind_51 ⟨Nat.le_of_ble_eq_true rfl, Nat.le_of_ble_eq_true rfl⟩) hS (fun q _ h => hFc q h) hFc ?_
          clear hS
          intro u t H1 locs ht hvm hw hB hz1 hk1 hS
          obtain ⟨z_2, rfl⟩ : ∃ z, z = u := ⟨_, rfl⟩
          obtain ⟨hP1, hK1, hD1⟩ := hB
          rw [ht] at hP1
          have hK1 := va_K.moved hvm.symm hK1
          try dsimp only at hw
          have hPD := va_join (wr := [(qf25, .inl (cf25, 400, .inl f25)), (qf6, .inl (cf6, 3002, .inl f6)), (qf5, .inl (cf5, 3002, .inl f5)), (qf2, .inl (cf2, 3000, .inl f2))]) (w1 := [(h0, .inr (13, z_2)), (qf65, .inl (cf65, 200, .inl g902_0))]) hP hD [0, 1] [2, 3, 4, 5] rfl rfl (by decide) (by decide) hk1 hFc hP1 hD1
          clear hP hD
          obtain ⟨hP, hD⟩ := hPD
          replace hK := (hK.sub (tys' := [(cf25, .int), (cf6, .int), (cf5, .int), (cf2, .int)]) [1, 2, 3, 4] rfl).app hK1
          clear hPc hDc hKc hFc hP1 hK1 hD1 hz1 hk1 ht hvm
          generalize H1 = H at hP hS ⊢
          replace hP : va_P (dC, dI) vwCl [(qf25, .inl (cf25, 400, .inl f25)), (qf6, .inl (cf6, 3002, .inl f6)), (qf5, .inl (cf5, 3002, .inl f5)), (qf2, .inl (cf2, 3000, .inl f2)), (h0, .inr (13, z_2)), (qf65, .inl (cf65, 200, .inl g902_0))] H := hP
          replace hD : va_D A [(qf25, .inl (cf25, 400, .inl f25)), (qf6, .inl (cf6, 3002, .inl f6)), (qf5, .inl (cf5, 3002, .inl f5)), (qf2, .inl (cf2, 3000, .inl f2)), (h0, .inr (13, z_2)), (qf65, .inl (cf65, 200, .inl g902_0))] := hD
          replace hK : va_K (dC, dI) vwCl [(cf25, .int), (cf6, .int), (cf5, .int), (cf2, .int), (cf65, .int)] s := hK
          obtain ⟨hwa_2, hln_2, hre_2, hch_2_66⟩ := hw
          have hfk_2_2 : z_2[2]? = some (.ref qf2) := (hre_2 2 (by decide)).trans (hf2)
          have hfk_2_5 : z_2[5]? = some (.ref qf5) := (hre_2 5 (by decide)).trans (hf5)
          have hfk_2_6 : z_2[6]? = some (.ref qf6) := (hre_2 6 (by decide)).trans (hf6)
          have hfk_2_25 : z_2[25]? = some (.ref qf25) := (hre_2 25 (by decide)).trans (hf25)
          have hfk_2_65 : z_2[65]? = some (.ref qf65) := (hre_2 65 (by decide)).trans (hf65)
          have hrq_2 : ∀ j : Nat, j ≠ 66 → z_2[j]? = zs[j]? := fun j g66 => (hre_2 j g66).trans (hrs0 j g66)
          exact hj_54 (H, locs, ls, z_2, a1, g902_0, u2_1) ⟨lv_sub hl [0, 1] rfl, hS, hD.sub (ws' := [(h0, .inr (13, z_2)), (qf65, .inl (cf65, 200, .inl g902_0)), (qf25, .inl (cf25, 400, .inl f25)), (qf6, .inl (cf6, 3002, .inl f6)), (qf5, .inl (cf5, 3002, .inl f5)), (qf2, .inl (cf2, 3000, .inl f2))]) [4, 5, 0, 1, 2, 3] (by decide) rfl, hP.sub (ws' := [(h0, .inr (13, z_2)), (qf65, .inl (cf65, 200, .inl g902_0)), (qf25, .inl (cf25, 400, .inl f25)), (qf6, .inl (cf6, 3002, .inl f6)), (qf5, .inl (cf5, 3002, .inl f5)), (qf2, .inl (cf2, 3000, .inl f2))]) [4, 5, 0, 1, 2, 3] rfl, hfk_2_2, hfk_2_5, hfk_2_6, hfk_2_25, hfk_2_65, hch_2_66, hln_2, hrq_2, hsp⟩
      · rw [if_pos c_3] at hsp
        refine lv_aload_n hx hb dX13_spellKind_32 rfl (lv_at hl 0 rfl) ?_
        refine lv_bipush (v := 86) hx hb dX13_spellKind_33 (by decide) ?_
        obtain ⟨⟨g903_0, u3_1⟩, hu_3, hsp⟩ := ox_bind hsp
        try dsimp only at hsp
        have hPc := hP.sub (ws' := [(h0, .inr (13, zs)), (qf65, .inl (cf65, 200, .inl f65))]) [0, 1] rfl
        have hDc := hD.sub (ws' := [(h0, .inr (13, zs)), (qf65, .inl (cf65, 200, .inl f65))]) [0, 1] (by decide) rfl
        have hKc := hK.sub (tys' := [(cf65, .int)]) [0] rfl
        have hFc := va_free (wc := [(h0, .inr (13, zs)), (qf65, .inl (cf65, 200, .inl f65))]) hD hS hA [0, 1] rfl
        refine va_callv (va_runV (As := [.int 86]) (rest := []) ⟨hx, hb, hml, hown, hts⟩ (tm_spell l dC dI H.size h0 zs 86 qf65 v66 cf65 f65 nf g903_0 u3_1 hlen hf65 hf66 hu_3) (cwV 1 hts gv_h9_27 rfl rfl rfl (by decide +kernel) ⟨Nat.le_of_ble_eq_true rfl, Nat.le_of_ble_eq_true rfl⟩) ⟨fun a U g mk q => by obtain ⟨q0, q1, qP, qK, qD⟩ := q; exact ⟨q0, q1, qP, va_K.moved (u := U) (U := U.calling g mk a) (Vm.Alike.refl U.vm) qK, qD⟩, va_recv hKc hPc (ci := 13) (q0 := 0) rfl rfl, fun U hU hW => ⟨rfl, by rw [hU], by rw [hU]; exact hPc, va_K.moved hW.alike hKc, hDc.weaken (fun _ _ _ _ => trivial)⟩⟩ rfl rfl hl.1 rfl (lv_room (Nat.le_of_ble_eq_true rfl)) dX13_spellKind_35 ⟨Nat.le_of_ble_eq_true rfl, Nat.le_of_ble_eq_true rfl⟩) hS (fun q _ h => hFc q h) hFc ?_
        clear hS
        intro u t H1 locs ht hvm hw hB hz1 hk1 hS
        obtain ⟨z_3, rfl⟩ : ∃ z, z = u := ⟨_, rfl⟩
        obtain ⟨hP1, hK1, hD1⟩ := hB
        rw [ht] at hP1
        have hK1 := va_K.moved hvm.symm hK1
        try dsimp only at hw
        have hPD := va_join (wr := [(qf25, .inl (cf25, 400, .inl f25)), (qf6, .inl (cf6, 3002, .inl f6)), (qf5, .inl (cf5, 3002, .inl f5)), (qf2, .inl (cf2, 3000, .inl f2))]) (w1 := [(h0, .inr (13, z_3)), (qf65, .inl (cf65, 200, .inl g903_0))]) hP hD [0, 1] [2, 3, 4, 5] rfl rfl (by decide) (by decide) hk1 hFc hP1 hD1
        clear hP hD
        obtain ⟨hP, hD⟩ := hPD
        replace hK := (hK.sub (tys' := [(cf25, .int), (cf6, .int), (cf5, .int), (cf2, .int)]) [1, 2, 3, 4] rfl).app hK1
        clear hPc hDc hKc hFc hP1 hK1 hD1 hz1 hk1 ht hvm
        generalize H1 = H at hP hS ⊢
        replace hP : va_P (dC, dI) vwCl [(qf25, .inl (cf25, 400, .inl f25)), (qf6, .inl (cf6, 3002, .inl f6)), (qf5, .inl (cf5, 3002, .inl f5)), (qf2, .inl (cf2, 3000, .inl f2)), (h0, .inr (13, z_3)), (qf65, .inl (cf65, 200, .inl g903_0))] H := hP
        replace hD : va_D A [(qf25, .inl (cf25, 400, .inl f25)), (qf6, .inl (cf6, 3002, .inl f6)), (qf5, .inl (cf5, 3002, .inl f5)), (qf2, .inl (cf2, 3000, .inl f2)), (h0, .inr (13, z_3)), (qf65, .inl (cf65, 200, .inl g903_0))] := hD
        replace hK : va_K (dC, dI) vwCl [(cf25, .int), (cf6, .int), (cf5, .int), (cf2, .int), (cf65, .int)] s := hK
        obtain ⟨hwa_3, hln_3, hre_3, hch_3_66⟩ := hw
        have hfk_3_2 : z_3[2]? = some (.ref qf2) := (hre_3 2 (by decide)).trans (hf2)
        have hfk_3_5 : z_3[5]? = some (.ref qf5) := (hre_3 5 (by decide)).trans (hf5)
        have hfk_3_6 : z_3[6]? = some (.ref qf6) := (hre_3 6 (by decide)).trans (hf6)
        have hfk_3_25 : z_3[25]? = some (.ref qf25) := (hre_3 25 (by decide)).trans (hf25)
        have hfk_3_65 : z_3[65]? = some (.ref qf65) := (hre_3 65 (by decide)).trans (hf65)
        have hrq_3 : ∀ j : Nat, j ≠ 66 → z_3[j]? = zs[j]? := fun j g66 => (hre_3 j g66).trans (hrs0 j g66)
        refine lv_goto (tgt := 88) hx hb dX13_spellKind_38 (by decide) ?_
        have hr0 := Option.some.inj hsp
        clear hsp
        obtain ⟨hq0, hr1⟩ := Prod.mk.inj hr0
        clear hr0
        subst hq0
        subst hr1
        have hP9 := hP.sub (ws' := [(h0, .inr (13, z_3)), (qf65, .inl (cf65, 200, .inl g903_0)), (qf25, .inl (cf25, 400, .inl f25)), (qf6, .inl (cf6, 3002, .inl f6)), (qf5, .inl (cf5, 3002, .inl f5)), (qf2, .inl (cf2, 3000, .inl f2))]) [4, 5, 0, 1, 2, 3] rfl
        have hD9 := hD.sub (ws' := [(h0, .inr (13, z_3)), (qf65, .inl (cf65, 200, .inl g903_0)), (qf25, .inl (cf25, 400, .inl f25)), (qf6, .inl (cf6, 3002, .inl f6)), (qf5, .inl (cf5, 3002, .inl f5)), (qf2, .inl (cf2, 3000, .inl f2))]) [4, 5, 0, 1, 2, 3] (by decide) rfl
        have hK9 := hK.sub (tys' := [(cf65, .int), (cf25, .int), (cf6, .int), (cf5, .int), (cf2, .int)]) [4, 0, 1, 2, 3] rfl
        exact W.vret hx hb hr (fun t ht hW => ⟨⟨(z_3), rfl, ⟨trivial, hln_3, hrq_3, hch_3_66⟩, by rw [ht]; exact hP9, va_K.moved hW.alike hK9, hD9⟩, hS.F ht⟩) hS.2.2 dX13_spellKind_88
    · rw [if_pos c_2] at hsp
      refine lv_aload_n hx hb dX13_spellKind_18 rfl (lv_at hl 0 rfl) ?_
      refine lv_bipush (v := 90) hx hb dX13_spellKind_19 (by decide) ?_
      obtain ⟨⟨g904_0, u4_1⟩, hu_4, hsp⟩ := ox_bind hsp
      try dsimp only at hsp
      have hPc := hP.sub (ws' := [(h0, .inr (13, zs)), (qf65, .inl (cf65, 200, .inl f65))]) [0, 1] rfl
      have hDc := hD.sub (ws' := [(h0, .inr (13, zs)), (qf65, .inl (cf65, 200, .inl f65))]) [0, 1] (by decide) rfl
      have hKc := hK.sub (tys' := [(cf65, .int)]) [0] rfl
      have hFc := va_free (wc := [(h0, .inr (13, zs)), (qf65, .inl (cf65, 200, .inl f65))]) hD hS hA [0, 1] rfl
      refine va_callv (va_runV (As := [.int 90]) (rest := []) ⟨hx, hb, hml, hown, hts⟩ (tm_spell l dC dI H.size h0 zs 90 qf65 v66 cf65 f65 nf g904_0 u4_1 hlen hf65 hf66 hu_4) (cwV 1 hts gv_h9_27 rfl rfl rfl (by decide +kernel) ⟨Nat.le_of_ble_eq_true rfl, Nat.le_of_ble_eq_true rfl⟩) ⟨fun a U g mk q => by obtain ⟨q0, q1, qP, qK, qD⟩ := q; exact ⟨q0, q1, qP, va_K.moved (u := U) (U := U.calling g mk a) (Vm.Alike.refl U.vm) qK, qD⟩, va_recv hKc hPc (ci := 13) (q0 := 0) rfl rfl, fun U hU hW => ⟨rfl, by rw [hU], by rw [hU]; exact hPc, va_K.moved hW.alike hKc, hDc.weaken (fun _ _ _ _ => trivial)⟩⟩ rfl rfl hl.1 rfl (lv_room (Nat.le_of_ble_eq_true rfl)) dX13_spellKind_21 ⟨Nat.le_of_ble_eq_true rfl, Nat.le_of_ble_eq_true rfl⟩) hS (fun q _ h => hFc q h) hFc ?_
      clear hS
      intro u t H1 locs ht hvm hw hB hz1 hk1 hS
      obtain ⟨z_4, rfl⟩ : ∃ z, z = u := ⟨_, rfl⟩
      obtain ⟨hP1, hK1, hD1⟩ := hB
      rw [ht] at hP1
      have hK1 := va_K.moved hvm.symm hK1
      try dsimp only at hw
      have hPD := va_join (wr := [(qf25, .inl (cf25, 400, .inl f25)), (qf6, .inl (cf6, 3002, .inl f6)), (qf5, .inl (cf5, 3002, .inl f5)), (qf2, .inl (cf2, 3000, .inl f2))]) (w1 := [(h0, .inr (13, z_4)), (qf65, .inl (cf65, 200, .inl g904_0))]) hP hD [0, 1] [2, 3, 4, 5] rfl rfl (by decide) (by decide) hk1 hFc hP1 hD1
      clear hP hD
      obtain ⟨hP, hD⟩ := hPD
      replace hK := (hK.sub (tys' := [(cf25, .int), (cf6, .int), (cf5, .int), (cf2, .int)]) [1, 2, 3, 4] rfl).app hK1
      clear hPc hDc hKc hFc hP1 hK1 hD1 hz1 hk1 ht hvm
      generalize H1 = H at hP hS ⊢
      replace hP : va_P (dC, dI) vwCl [(qf25, .inl (cf25, 400, .inl f25)), (qf6, .inl (cf6, 3002, .inl f6)), (qf5, .inl (cf5, 3002, .inl f5)), (qf2, .inl (cf2, 3000, .inl f2)), (h0, .inr (13, z_4)), (qf65, .inl (cf65, 200, .inl g904_0))] H := hP
      replace hD : va_D A [(qf25, .inl (cf25, 400, .inl f25)), (qf6, .inl (cf6, 3002, .inl f6)), (qf5, .inl (cf5, 3002, .inl f5)), (qf2, .inl (cf2, 3000, .inl f2)), (h0, .inr (13, z_4)), (qf65, .inl (cf65, 200, .inl g904_0))] := hD
      replace hK : va_K (dC, dI) vwCl [(cf25, .int), (cf6, .int), (cf5, .int), (cf2, .int), (cf65, .int)] s := hK
      obtain ⟨hwa_4, hln_4, hre_4, hch_4_66⟩ := hw
      have hfk_4_2 : z_4[2]? = some (.ref qf2) := (hre_4 2 (by decide)).trans (hf2)
      have hfk_4_5 : z_4[5]? = some (.ref qf5) := (hre_4 5 (by decide)).trans (hf5)
      have hfk_4_6 : z_4[6]? = some (.ref qf6) := (hre_4 6 (by decide)).trans (hf6)
      have hfk_4_25 : z_4[25]? = some (.ref qf25) := (hre_4 25 (by decide)).trans (hf25)
      have hfk_4_65 : z_4[65]? = some (.ref qf65) := (hre_4 65 (by decide)).trans (hf65)
      have hrq_4 : ∀ j : Nat, j ≠ 66 → z_4[j]? = zs[j]? := fun j g66 => (hre_4 j g66).trans (hrs0 j g66)
      refine lv_goto (tgt := 88) hx hb dX13_spellKind_24 (by decide) ?_
      have hr0 := Option.some.inj hsp
      clear hsp
      obtain ⟨hq0, hr1⟩ := Prod.mk.inj hr0
      clear hr0
      subst hq0
      subst hr1
      have hP9 := hP.sub (ws' := [(h0, .inr (13, z_4)), (qf65, .inl (cf65, 200, .inl g904_0)), (qf25, .inl (cf25, 400, .inl f25)), (qf6, .inl (cf6, 3002, .inl f6)), (qf5, .inl (cf5, 3002, .inl f5)), (qf2, .inl (cf2, 3000, .inl f2))]) [4, 5, 0, 1, 2, 3] rfl
      have hD9 := hD.sub (ws' := [(h0, .inr (13, z_4)), (qf65, .inl (cf65, 200, .inl g904_0)), (qf25, .inl (cf25, 400, .inl f25)), (qf6, .inl (cf6, 3002, .inl f6)), (qf5, .inl (cf5, 3002, .inl f5)), (qf2, .inl (cf2, 3000, .inl f2))]) [4, 5, 0, 1, 2, 3] (by decide) rfl
      have hK9 := hK.sub (tys' := [(cf65, .int), (cf25, .int), (cf6, .int), (cf5, .int), (cf2, .int)]) [4, 0, 1, 2, 3] rfl
      exact W.vret hx hb hr (fun t ht hW => ⟨⟨(z_4), rfl, ⟨trivial, hln_4, hrq_4, hch_4_66⟩, by rw [ht]; exact hP9, va_K.moved hW.alike hK9, hD9⟩, hS.F ht⟩) hS.2.2 dX13_spellKind_88
  · rw [if_pos c_1] at hsp
    refine lv_aload_n hx hb dX13_spellKind_4 rfl (lv_at hl 0 rfl) ?_
    refine lv_bipush (v := 73) hx hb dX13_spellKind_5 (by decide) ?_
    obtain ⟨⟨g905_0, u5_1⟩, hu_5, hsp⟩ := ox_bind hsp
    try dsimp only at hsp
    have hPc := hP.sub (ws' := [(h0, .inr (13, zs)), (qf65, .inl (cf65, 200, .inl f65))]) [0, 1] rfl
    have hDc := hD.sub (ws' := [(h0, .inr (13, zs)), (qf65, .inl (cf65, 200, .inl f65))]) [0, 1] (by decide) rfl
    have hKc := hK.sub (tys' := [(cf65, .int)]) [0] rfl
    have hFc := va_free (wc := [(h0, .inr (13, zs)), (qf65, .inl (cf65, 200, .inl f65))]) hD hS hA [0, 1] rfl
    refine va_callv (va_runV (As := [.int 73]) (rest := []) ⟨hx, hb, hml, hown, hts⟩ (tm_spell l dC dI H.size h0 zs 73 qf65 v66 cf65 f65 nf g905_0 u5_1 hlen hf65 hf66 hu_5) (cwV 1 hts gv_h9_27 rfl rfl rfl (by decide +kernel) ⟨Nat.le_of_ble_eq_true rfl, Nat.le_of_ble_eq_true rfl⟩) ⟨fun a U g mk q => by obtain ⟨q0, q1, qP, qK, qD⟩ := q; exact ⟨q0, q1, qP, va_K.moved (u := U) (U := U.calling g mk a) (Vm.Alike.refl U.vm) qK, qD⟩, va_recv hKc hPc (ci := 13) (q0 := 0) rfl rfl, fun U hU hW => ⟨rfl, by rw [hU], by rw [hU]; exact hPc, va_K.moved hW.alike hKc, hDc.weaken (fun _ _ _ _ => trivial)⟩⟩ rfl rfl hl.1 rfl (lv_room (Nat.le_of_ble_eq_true rfl)) dX13_spellKind_7 ⟨Nat.le_of_ble_eq_true rfl, Nat.le_of_ble_eq_true rfl⟩) hS (fun q _ h => hFc q h) hFc ?_
    clear hS
    intro u t H1 locs ht hvm hw hB hz1 hk1 hS
    obtain ⟨z_5, rfl⟩ : ∃ z, z = u := ⟨_, rfl⟩
    obtain ⟨hP1, hK1, hD1⟩ := hB
    rw [ht] at hP1
    have hK1 := va_K.moved hvm.symm hK1
    try dsimp only at hw
    have hPD := va_join (wr := [(qf25, .inl (cf25, 400, .inl f25)), (qf6, .inl (cf6, 3002, .inl f6)), (qf5, .inl (cf5, 3002, .inl f5)), (qf2, .inl (cf2, 3000, .inl f2))]) (w1 := [(h0, .inr (13, z_5)), (qf65, .inl (cf65, 200, .inl g905_0))]) hP hD [0, 1] [2, 3, 4, 5] rfl rfl (by decide) (by decide) hk1 hFc hP1 hD1
    clear hP hD
    obtain ⟨hP, hD⟩ := hPD
    replace hK := (hK.sub (tys' := [(cf25, .int), (cf6, .int), (cf5, .int), (cf2, .int)]) [1, 2, 3, 4] rfl).app hK1
    clear hPc hDc hKc hFc hP1 hK1 hD1 hz1 hk1 ht hvm
    generalize H1 = H at hP hS ⊢
    replace hP : va_P (dC, dI) vwCl [(qf25, .inl (cf25, 400, .inl f25)), (qf6, .inl (cf6, 3002, .inl f6)), (qf5, .inl (cf5, 3002, .inl f5)), (qf2, .inl (cf2, 3000, .inl f2)), (h0, .inr (13, z_5)), (qf65, .inl (cf65, 200, .inl g905_0))] H := hP
    replace hD : va_D A [(qf25, .inl (cf25, 400, .inl f25)), (qf6, .inl (cf6, 3002, .inl f6)), (qf5, .inl (cf5, 3002, .inl f5)), (qf2, .inl (cf2, 3000, .inl f2)), (h0, .inr (13, z_5)), (qf65, .inl (cf65, 200, .inl g905_0))] := hD
    replace hK : va_K (dC, dI) vwCl [(cf25, .int), (cf6, .int), (cf5, .int), (cf2, .int), (cf65, .int)] s := hK
    obtain ⟨hwa_5, hln_5, hre_5, hch_5_66⟩ := hw
    have hfk_5_2 : z_5[2]? = some (.ref qf2) := (hre_5 2 (by decide)).trans (hf2)
    have hfk_5_5 : z_5[5]? = some (.ref qf5) := (hre_5 5 (by decide)).trans (hf5)
    have hfk_5_6 : z_5[6]? = some (.ref qf6) := (hre_5 6 (by decide)).trans (hf6)
    have hfk_5_25 : z_5[25]? = some (.ref qf25) := (hre_5 25 (by decide)).trans (hf25)
    have hfk_5_65 : z_5[65]? = some (.ref qf65) := (hre_5 65 (by decide)).trans (hf65)
    have hrq_5 : ∀ j : Nat, j ≠ 66 → z_5[j]? = zs[j]? := fun j g66 => (hre_5 j g66).trans (hrs0 j g66)
    refine lv_goto (tgt := 88) hx hb dX13_spellKind_10 (by decide) ?_
    have hr0 := Option.some.inj hsp
    clear hsp
    obtain ⟨hq0, hr1⟩ := Prod.mk.inj hr0
    clear hr0
    subst hq0
    subst hr1
    have hP9 := hP.sub (ws' := [(h0, .inr (13, z_5)), (qf65, .inl (cf65, 200, .inl g905_0)), (qf25, .inl (cf25, 400, .inl f25)), (qf6, .inl (cf6, 3002, .inl f6)), (qf5, .inl (cf5, 3002, .inl f5)), (qf2, .inl (cf2, 3000, .inl f2))]) [4, 5, 0, 1, 2, 3] rfl
    have hD9 := hD.sub (ws' := [(h0, .inr (13, z_5)), (qf65, .inl (cf65, 200, .inl g905_0)), (qf25, .inl (cf25, 400, .inl f25)), (qf6, .inl (cf6, 3002, .inl f6)), (qf5, .inl (cf5, 3002, .inl f5)), (qf2, .inl (cf2, 3000, .inl f2))]) [4, 5, 0, 1, 2, 3] (by decide) rfl
    have hK9 := hK.sub (tys' := [(cf65, .int), (cf25, .int), (cf6, .int), (cf5, .int), (cf2, .int)]) [4, 0, 1, 2, 3] rfl
    exact W.vret hx hb hr (fun t ht hW => ⟨⟨(z_5), rfl, ⟨trivial, hln_5, hrq_5, hch_5_66⟩, by rw [ht]; exact hP9, va_K.moved hW.alike hK9, hD9⟩, hS.F ht⟩) hS.2.2 dX13_spellKind_88
def jn_vm_constant_71 (nf : Nat) (a1 : Int32) (a2 : Int32) (a3 : Int32) (a4 : Int32) (v62 : Int32) (f58 : Nat → Int32) (f59 : Nat → Int32) (f60 : Nat → Int32) (f61 : Nat → Int32)  (l1_71 : Int32) (l2_71 : Int32) (l3_71 : Int32) (l4_71 : Int32) (g58_71 : Nat → Int32) (g59_71 : Nat → Int32) (g60_71 : Nat → Int32) (g61_71 : Nat → Int32) (x62_71 : Int32) : Option (Int32 × (Nat → Int32) × (Nat → Int32) × (Nat → Int32) × (Nat → Int32) × Int32) := (if (x62_71 + 1) < 0 then none else if 2000 ≤ ((x62_71 + 1) : Int32).toNatClampNeg then none else (if (x62_71 + 1) < 0 then none else if 2000 ≤ ((x62_71 + 1) : Int32).toNatClampNeg then none else (if (x62_71 + 1) < 0 then none else if 2000 ≤ ((x62_71 + 1) : Int32).toNatClampNeg then none else (if (x62_71 + 1) < 0 then none else if 2000 ≤ ((x62_71 + 1) : Int32).toNatClampNeg then none else (some ((x62_71 + 1), (upd g58_71 ((x62_71 + 1) : Int32).toNatClampNeg l1_71), (upd g59_71 ((x62_71 + 1) : Int32).toNatClampNeg l2_71), (upd g60_71 ((x62_71 + 1) : Int32).toNatClampNeg l3_71), (upd g61_71 ((x62_71 + 1) : Int32).toNatClampNeg l4_71), (x62_71 + 1)))))))
def lp_vm_constant_8 (nf n : Nat) (a1 : Int32) (a2 : Int32) (a3 : Int32) (a4 : Int32) (v62 : Int32) (f58 : Nat → Int32) (f59 : Nat → Int32) (f60 : Nat → Int32) (f61 : Nat → Int32)  (l1_8 : Int32) (l2_8 : Int32) (l3_8 : Int32) (l4_8 : Int32) (l5_8 : Int32) (g58_8 : Nat → Int32) (g59_8 : Nat → Int32) (g60_8 : Nat → Int32) (g61_8 : Nat → Int32) (x62_8 : Int32) : Option (Int32 × (Nat → Int32) × (Nat → Int32) × (Nat → Int32) × (Nat → Int32) × Int32) := match n with
  | 0 => none
  | n + 1 => (if x62_8 < l5_8 then (jn_vm_constant_71 nf a1 a2 a3 a4 v62 f58 f59 f60 f61  l1_8 l2_8 l3_8 l4_8 g58_8 g59_8 g60_8 g61_8 x62_8) else (if l5_8 < 0 then none else if 2000 ≤ (l5_8 : Int32).toNatClampNeg then none else (if (g58_8 (l5_8 : Int32).toNatClampNeg) = l1_8 then (if l5_8 < 0 then none else if 2000 ≤ (l5_8 : Int32).toNatClampNeg then none else (if (g59_8 (l5_8 : Int32).toNatClampNeg) = l2_8 then (if l5_8 < 0 then none else if 2000 ≤ (l5_8 : Int32).toNatClampNeg then none else (if (g60_8 (l5_8 : Int32).toNatClampNeg) = l3_8 then (if l5_8 < 0 then none else if 2000 ≤ (l5_8 : Int32).toNatClampNeg then none else (if (g61_8 (l5_8 : Int32).toNatClampNeg) = l4_8 then (some (l5_8, g58_8, g59_8, g60_8, g61_8, x62_8)) else (lp_vm_constant_8 nf n a1 a2 a3 a4 v62 f58 f59 f60 f61 l1_8 l2_8 l3_8 l4_8 (l5_8 + 1) g58_8 g59_8 g60_8 g61_8 x62_8))) else (lp_vm_constant_8 nf n a1 a2 a3 a4 v62 f58 f59 f60 f61 l1_8 l2_8 l3_8 l4_8 (l5_8 + 1) g58_8 g59_8 g60_8 g61_8 x62_8))) else (lp_vm_constant_8 nf n a1 a2 a3 a4 v62 f58 f59 f60 f61 l1_8 l2_8 l3_8 l4_8 (l5_8 + 1) g58_8 g59_8 g60_8 g61_8 x62_8))) else (lp_vm_constant_8 nf n a1 a2 a3 a4 v62 f58 f59 f60 f61 l1_8 l2_8 l3_8 l4_8 (l5_8 + 1) g58_8 g59_8 g60_8 g61_8 x62_8))))
def sp_vm_constant (nf : Nat) (a1 : Int32) (a2 : Int32) (a3 : Int32) (a4 : Int32) (v62 : Int32) (f58 : Nat → Int32) (f59 : Nat → Int32) (f60 : Nat → Int32) (f61 : Nat → Int32) : Option (Int32 × (Nat → Int32) × (Nat → Int32) × (Nat → Int32) × (Nat → Int32) × Int32) := (if a1 ≤ 1 then (jn_vm_constant_71 nf a1 a2 a3 a4 v62 f58 f59 f60 f61  a1 a2 a3 a4 f58 f59 f60 f61 v62) else (lp_vm_constant_8 nf nf a1 a2 a3 a4 v62 f58 f59 f60 f61  a1 a2 a3 a4 1 f58 f59 f60 f61 v62))
set_option maxHeartbeats 4000000 in
set_option maxRecDepth 100000 in
/-- ClassMillModel.constant -/
theorem vm_constant (l : Launch) (dC : Nat → ClassId) (dI : Nat → Nat → Nat) (sz : Nat) (h0 : Nat) (zs : (List Value)) (a1 : Int32) (a2 : Int32) (a3 : Int32) (a4 : Int32) (qf58 : Nat) (qf59 : Nat) (qf60 : Nat) (qf61 : Nat) (v62 : Int32) (cf58 : ClassId) (f58 : (Nat → Int32)) (cf59 : ClassId) (f59 : (Nat → Int32)) (cf60 : ClassId) (f60 : (Nat → Int32)) (cf61 : ClassId) (f61 : (Nat → Int32)) (nf : Nat) (r0 : Int32) (o58 : (Nat → Int32)) (o59 : (Nat → Int32)) (o60 : (Nat → Int32)) (o61 : (Nat → Int32)) (w62 : Int32) (hlen : zs.length = 155) (hf58 : zs[58]? = some (.ref qf58)) (hf59 : zs[59]? = some (.ref qf59)) (hf60 : zs[60]? = some (.ref qf60)) (hf61 : zs[61]? = some (.ref qf61)) (hf62 : zs[62]? = some (.int v62)) (hsp : sp_vm_constant nf a1 a2 a3 a4 v62 f58 f59 f60 f61 = some (r0, o58, o59, o60, o61, w62)) : Met l yX13_constant (.code yX13_constant cX13_constant 6 (some .int) :: VS_h9) ({ frames := 0, cells := 0, slots := 0, locals := 0 }) (va_Pc [.ref h0, .int a1, .int a2, .int a3, .int a4] (fun U => U.heap.size = sz ∧ va_P (dC, dI) vwCl [(h0, .inr (13, zs)), (qf58, .inl (cf58, 2000, .inl f58)), (qf59, .inl (cf59, 2000, .inl f59)), (qf60, .inl (cf60, 2000, .inl f60)), (qf61, .inl (cf61, 2000, .inl f61))] U.heap ∧ va_K (dC, dI) vwCl [(cf58, .int), (cf59, .int), (cf60, .int), (cf61, .int)] U ∧ va_D (fun _ => True) [(h0, .inr (13, zs)), (qf58, .inl (cf58, 2000, .inl f58)), (qf59, .inl (cf59, 2000, .inl f59)), (qf60, .inl (cf60, 2000, .inl f60)), (qf61, .inl (cf61, 2000, .inl f61))])) (va_Qi (fun (r : Int32) (u : (List Value)) => match u with | (zo1) => r0 = r ∧ zo1.length = 155 ∧ (∀ j : Nat, j ≠ 62 → zo1[j]? = zs[j]?) ∧ zo1[62]? = some (.int w62)) (fun (u : (List Value)) (t : State) => match u with | (zo1) => va_P (dC, dI) vwCl [(h0, .inr (13, zo1)), (qf58, .inl (cf58, 2000, .inl o58)), (qf59, .inl (cf59, 2000, .inl o59)), (qf60, .inl (cf60, 2000, .inl o60)), (qf61, .inl (cf61, 2000, .inl o61))] t.heap ∧ va_K (dC, dI) vwCl [(cf58, .int), (cf59, .int), (cf60, .int), (cf61, .int)] t ∧ va_D (va_A [(h0, .inr (13, zs)), (qf58, .inl (cf58, 2000, .inl f58)), (qf59, .inl (cf59, 2000, .inl f59)), (qf60, .inl (cf60, 2000, .inl f60)), (qf61, .inl (cf61, 2000, .inl f61))] sz) [(h0, .inr (13, zo1)), (qf58, .inl (cf58, 2000, .inl o58)), (qf59, .inl (cf59, 2000, .inl o59)), (qf60, .inl (cf60, 2000, .inl o60)), (qf61, .inl (cf61, 2000, .inl o61))]) (va_A [(h0, .inr (13, zs)), (qf58, .inl (cf58, 2000, .inl f58)), (qf59, .inl (cf59, 2000, .inl f59)), (qf60, .inl (cf60, 2000, .inl f60)), (qf61, .inl (cf61, 2000, .inl f61))] sz)) 0 0 (va_A [(h0, .inr (13, zs)), (qf58, .inl (cf58, 2000, .inl f58)), (qf59, .inl (cf59, 2000, .inl f59)), (qf60, .inl (cf60, 2000, .inl f60)), (qf61, .inl (cf61, 2000, .inl f61))] sz) := by
  refine Met.ofW (cc := cX13_constant) (maxL := 6) (ret := (some .int)) (by decide) rfl ?_
  intro p e s m args below meth c s₁ B hml hv
  obtain ⟨rfl, hsz, hP, hK, hD0⟩ := hv
  have hx := B.exec
  have hb := B.bytes
  have hr := B.returns
  have hts := atoms_spec (ws := (.code yX13_constant cX13_constant 6 (some .int) :: VS_h9)) B.pre
  replace hts := fun w (h : w ∈ VS_h9) => hts w (List.mem_cons_of_mem _ h)
  have hown : s.vm.findClass RX13 = some m.cls := findClass_of_methodNamed B.named
  have hlocks := B.notSynchronized
  subst hsz
  have hD := hD0.self (sz := s.heap.size)
  generalize hAe : va_A [(h0, .inr (13, zs)), (qf58, .inl (cf58, 2000, .inl f58)), (qf59, .inl (cf59, 2000, .inl f59)), (qf60, .inl (cf60, 2000, .inl f60)), (qf61, .inl (cf61, 2000, .inl f61))] s.heap.size = A at hD  ⊢
  have hA : ∀ q : Nat, s.heap.size ≤ q → A q := fun q h => by rw [← hAe]; exact Or.inr h
  have hP : va_P (dC, dI) vwCl [(h0, .inr (13, zs)), (qf58, .inl (cf58, 2000, .inl f58)), (qf59, .inl (cf59, 2000, .inl f59)), (qf60, .inl (cf60, 2000, .inl f60)), (qf61, .inl (cf61, 2000, .inl f61))] s.heap := hP
  have hl := lv_entry ([.ref h0, .int a1, .int a2, .int a3, .int a4]) (n := 6) (Nat.le_of_ble_eq_true rfl)
  rw [lg_entry_eq]
  generalize (lg_sl ([.ref h0, .int a1, .int a2, .int a3, .int a4]) ++ List.replicate (6 - (lg_sl ([.ref h0, .int a1, .int a2, .int a3, .int a4])).length) Slot.unset).toArray = ls at hl ⊢
  have hl : lv_has ls 6 [(0, .ref h0), (1, .int a1), (2, .int a2), (3, .int a3), (4, .int a4)] := hl
  obtain ⟨H, hH⟩ : ∃ H : Heap, s.heap = H := ⟨_, rfl⟩
  rw [hH] at hP ⊢
  have hS : va_S A s.heap H [] := by rw [← hH]; exact va_S.rf
  obtain ⟨locs, hlo⟩ : ∃ locs : List Loc, locs = [] := ⟨_, rfl⟩
  rw [← hlo] at hS ⊢
  have hrs0 : ∀ j : Nat, j ≠ 62 → zs[j]? = zs[j]? := fun _ _  => rfl
  unfold sp_vm_constant at hsp
  refine jn_use (α := Heap × List Loc × Array Slot × List Value × Int32 × Int32 × Int32 × Int32 × (Nat → Int32) × (Nat → Int32) × (Nat → Int32) × (Nat → Int32) × Int32) (fun x9 => x9.1) (fun x9 => x9.2.1) (fun x9 => F0 m 71 x9.2.2.1 []) (fun x9 => match x9 with | (H, locs, ls, z71, l1_71, l2_71, l3_71, l4_71, g58_71, g59_71, g60_71, g61_71, x62_71) => lv_has ls 6 [(0, .ref h0), (1, .int l1_71), (2, .int l2_71), (3, .int l3_71), (4, .int l4_71)] ∧ va_S A s.heap H locs ∧ va_D A [(h0, .inr (13, z71)), (qf58, .inl (cf58, 2000, .inl g58_71)), (qf59, .inl (cf59, 2000, .inl g59_71)), (qf60, .inl (cf60, 2000, .inl g60_71)), (qf61, .inl (cf61, 2000, .inl g61_71))] ∧ va_P (dC, dI) vwCl [(h0, .inr (13, z71)), (qf58, .inl (cf58, 2000, .inl g58_71)), (qf59, .inl (cf59, 2000, .inl g59_71)), (qf60, .inl (cf60, 2000, .inl g60_71)), (qf61, .inl (cf61, 2000, .inl g61_71))] H ∧ z71[58]? = some (.ref qf58) ∧ z71[59]? = some (.ref qf59) ∧ z71[60]? = some (.ref qf60) ∧ z71[61]? = some (.ref qf61) ∧ z71[62]? = some (.int x62_71) ∧ z71.length = 155 ∧ (∀ j : Nat, j ≠ 62 → z71[j]? = zs[j]?) ∧ jn_vm_constant_71 nf a1 a2 a3 a4 v62 f58 f59 f60 f61 l1_71 l2_71 l3_71 l4_71 g58_71 g59_71 g60_71 g61_71 x62_71 = some (r0, o58, o59, o60, o61, w62)) ?_ ?_
  · intro x9 hJ9
    obtain ⟨H, locs, ls, z71, l1_71, l2_71, l3_71, l4_71, g58_71, g59_71, g60_71, g61_71, x62_71⟩ := x9
    obtain ⟨hl, hS, hD, hP, hfh_71_58, hfh_71_59, hfh_71_60, hfh_71_61, hfh_71_62, hlh_71, hrh_71, hsp⟩ := hJ9
    replace hl : lv_has ls 6 [(0, .ref h0), (1, .int l1_71), (2, .int l2_71), (3, .int l3_71), (4, .int l4_71)] := hl
    replace hS : va_S A s.heap H locs := hS
    replace hD : va_D A [(h0, .inr (13, z71)), (qf58, .inl (cf58, 2000, .inl g58_71)), (qf59, .inl (cf59, 2000, .inl g59_71)), (qf60, .inl (cf60, 2000, .inl g60_71)), (qf61, .inl (cf61, 2000, .inl g61_71))] := hD
    replace hP : va_P (dC, dI) vwCl [(h0, .inr (13, z71)), (qf58, .inl (cf58, 2000, .inl g58_71)), (qf59, .inl (cf59, 2000, .inl g59_71)), (qf60, .inl (cf60, 2000, .inl g60_71)), (qf61, .inl (cf61, 2000, .inl g61_71))] H := hP
    replace hsp : jn_vm_constant_71 nf a1 a2 a3 a4 v62 f58 f59 f60 f61 l1_71 l2_71 l3_71 l4_71 g58_71 g59_71 g60_71 g61_71 x62_71 = some (r0, o58, o59, o60, o61, w62) := hsp
    show W _ _ _ _ _ _ _ _ _ _ H locs _ _ _ (F0 m 71 ls [])
    unfold jn_vm_constant_71 at hsp
    try dsimp only at hsp
    refine lv_aload_n hx hb dX13_constant_71 rfl (lv_at hl 0 rfl) ?_
    refine lv_dup hx hb dX13_constant_72 rfl ?_
    refine va_get (D := (dC, dI)) (ci := 13) (v := .int x62_71) (C := RX13) (T := TX13) (N := 155) hx hb hts uV_h9_X13 hown hK hP 0 rfl rfl 62 (by decide) (hts (.fieldLink RX13 602 "ClassMillModel" "constants" "I") mw_h9_162) (fun _ h9 => h9) hfh_71_62 dX13_constant_73 ?_
    refine lv_iconst (v := 1) hx hb dX13_constant_76 (by decide) ?_
    refine lv_iadd hx hb dX13_constant_77 ?_
    refine va_put (D := (dC, dI)) (ci := 13) (v := .int (x62_71 + 1)) (ty := .int) (C := RX13) (T := TX13) (N := 155) hx hb hts uV_h9_X13 tyX13 tyX13_ok nmX13 hown hK hP hD hS 0 rfl rfl 62 (by decide) (hts (.fieldLink RX13 602 "ClassMillModel" "constants" "I") mw_h9_162) (fun _ h9 => h9) rfl (by decide +kernel) rfl rfl (by rw [hlh_71]; decide) dX13_constant_78 ?_
    clear hP hD hS
    intro H locs hP hD hS
    obtain ⟨fs_11, efs_11⟩ : ∃ zf : List Value, zf = z71.set 62 (.int (x62_71 + 1)) := ⟨_, rfl⟩
    rw [← efs_11] at hP hD
    have hlfs_11 : fs_11.length = 155 := by rw [efs_11, List.length_set]; exact hlh_71
    have hfs_11_58 : fs_11[58]? = some (.ref qf58) := by rw [efs_11, List.getElem?_set_ne (by decide)]; exact hfh_71_58
    have hfs_11_59 : fs_11[59]? = some (.ref qf59) := by rw [efs_11, List.getElem?_set_ne (by decide)]; exact hfh_71_59
    have hfs_11_60 : fs_11[60]? = some (.ref qf60) := by rw [efs_11, List.getElem?_set_ne (by decide)]; exact hfh_71_60
    have hfs_11_61 : fs_11[61]? = some (.ref qf61) := by rw [efs_11, List.getElem?_set_ne (by decide)]; exact hfh_71_61
    have hfs_11_62 : fs_11[62]? = some (.int (x62_71 + 1)) := by rw [efs_11, List.getElem?_set_self (by rw [hlh_71]; decide)]
    replace hP : va_P (dC, dI) vwCl [(h0, .inr (13, fs_11)), (qf58, .inl (cf58, 2000, .inl g58_71)), (qf59, .inl (cf59, 2000, .inl g59_71)), (qf60, .inl (cf60, 2000, .inl g60_71)), (qf61, .inl (cf61, 2000, .inl g61_71))] H := hP
    replace hD : va_D A [(h0, .inr (13, fs_11)), (qf58, .inl (cf58, 2000, .inl g58_71)), (qf59, .inl (cf59, 2000, .inl g59_71)), (qf60, .inl (cf60, 2000, .inl g60_71)), (qf61, .inl (cf61, 2000, .inl g61_71))] := hD
    have hrs_12 : ∀ j : Nat, j ≠ 62 → fs_11[j]? = zs[j]? := fun j g62 => ((congrArg (fun z : List Value => z[j]?) efs_11).trans (List.getElem?_set_ne (Ne.symm g62))).trans (hrh_71 j g62)
    refine lv_aload_n hx hb dX13_constant_81 rfl (lv_at hl 0 rfl) ?_
    refine va_get (D := (dC, dI)) (ci := 13) (v := .ref qf58) (C := RX13) (T := TX13) (N := 155) hx hb hts uV_h9_X13 hown hK hP 0 rfl rfl 58 (by decide) (hts (.fieldLink RX13 128 "ClassMillModel" "constantSort" "[I") mw_h9_163) (fun _ h9 => h9) hfs_11_58 dX13_constant_82 ?_
    refine lv_aload_n hx hb dX13_constant_85 rfl (lv_at hl 0 rfl) ?_
    refine va_get (D := (dC, dI)) (ci := 13) (v := .int (x62_71 + 1)) (C := RX13) (T := TX13) (N := 155) hx hb hts uV_h9_X13 hown hK hP 0 rfl rfl 62 (by decide) (hts (.fieldLink RX13 602 "ClassMillModel" "constants" "I") mw_h9_162) (fun _ h9 => h9) hfs_11_62 dX13_constant_86 ?_
    refine lv_iload_n hx hb dX13_constant_89 rfl (lv_at hl 1 rfl) ?_
    obtain ⟨hi_13, hsp⟩ := ox_in hsp
    refine va_iast hx hb hK hP hD hS 1 0 rfl rfl (i := (x62_71 + 1)) (x := l1_71) hi_13 dX13_constant_90 ?_
    clear hP hD hS
    intro H locs hP hD hS
    replace hP : va_P (dC, dI) vwCl [(h0, .inr (13, fs_11)), (qf58, .inl (cf58, 2000, .inl (upd g58_71 ((x62_71 + 1) : Int32).toNatClampNeg l1_71))), (qf59, .inl (cf59, 2000, .inl g59_71)), (qf60, .inl (cf60, 2000, .inl g60_71)), (qf61, .inl (cf61, 2000, .inl g61_71))] H := hP
    replace hD : va_D A [(h0, .inr (13, fs_11)), (qf58, .inl (cf58, 2000, .inl (upd g58_71 ((x62_71 + 1) : Int32).toNatClampNeg l1_71))), (qf59, .inl (cf59, 2000, .inl g59_71)), (qf60, .inl (cf60, 2000, .inl g60_71)), (qf61, .inl (cf61, 2000, .inl g61_71))] := hD
    refine lv_aload_n hx hb dX13_constant_91 rfl (lv_at hl 0 rfl) ?_
    refine va_get (D := (dC, dI)) (ci := 13) (v := .ref qf59) (C := RX13) (T := TX13) (N := 155) hx hb hts uV_h9_X13 hown hK hP 0 rfl rfl 59 (by decide) (hts (.fieldLink RX13 131 "ClassMillModel" "constantOne" "[I") mw_h9_164) (fun _ h9 => h9) hfs_11_59 dX13_constant_92 ?_
    refine lv_aload_n hx hb dX13_constant_95 rfl (lv_at hl 0 rfl) ?_
    refine va_get (D := (dC, dI)) (ci := 13) (v := .int (x62_71 + 1)) (C := RX13) (T := TX13) (N := 155) hx hb hts uV_h9_X13 hown hK hP 0 rfl rfl 62 (by decide) (hts (.fieldLink RX13 602 "ClassMillModel" "constants" "I") mw_h9_162) (fun _ h9 => h9) hfs_11_62 dX13_constant_96 ?_
    refine lv_iload_n hx hb dX13_constant_99 rfl (lv_at hl 2 rfl) ?_
    obtain ⟨hi_14, hsp⟩ := ox_in hsp
    refine va_iast hx hb hK hP hD hS 2 1 rfl rfl (i := (x62_71 + 1)) (x := l2_71) hi_14 dX13_constant_100 ?_
    clear hP hD hS
    intro H locs hP hD hS
    replace hP : va_P (dC, dI) vwCl [(h0, .inr (13, fs_11)), (qf58, .inl (cf58, 2000, .inl (upd g58_71 ((x62_71 + 1) : Int32).toNatClampNeg l1_71))), (qf59, .inl (cf59, 2000, .inl (upd g59_71 ((x62_71 + 1) : Int32).toNatClampNeg l2_71))), (qf60, .inl (cf60, 2000, .inl g60_71)), (qf61, .inl (cf61, 2000, .inl g61_71))] H := hP
    replace hD : va_D A [(h0, .inr (13, fs_11)), (qf58, .inl (cf58, 2000, .inl (upd g58_71 ((x62_71 + 1) : Int32).toNatClampNeg l1_71))), (qf59, .inl (cf59, 2000, .inl (upd g59_71 ((x62_71 + 1) : Int32).toNatClampNeg l2_71))), (qf60, .inl (cf60, 2000, .inl g60_71)), (qf61, .inl (cf61, 2000, .inl g61_71))] := hD
    refine lv_aload_n hx hb dX13_constant_101 rfl (lv_at hl 0 rfl) ?_
    refine va_get (D := (dC, dI)) (ci := 13) (v := .ref qf60) (C := RX13) (T := TX13) (N := 155) hx hb hts uV_h9_X13 hown hK hP 0 rfl rfl 60 (by decide) (hts (.fieldLink RX13 134 "ClassMillModel" "constantTwo" "[I") mw_h9_165) (fun _ h9 => h9) hfs_11_60 dX13_constant_102 ?_
    refine lv_aload_n hx hb dX13_constant_105 rfl (lv_at hl 0 rfl) ?_
    refine va_get (D := (dC, dI)) (ci := 13) (v := .int (x62_71 + 1)) (C := RX13) (T := TX13) (N := 155) hx hb hts uV_h9_X13 hown hK hP 0 rfl rfl 62 (by decide) (hts (.fieldLink RX13 602 "ClassMillModel" "constants" "I") mw_h9_162) (fun _ h9 => h9) hfs_11_62 dX13_constant_106 ?_
    refine lv_iload_n hx hb dX13_constant_109 rfl (lv_at hl 3 rfl) ?_
    obtain ⟨hi_15, hsp⟩ := ox_in hsp
    refine va_iast hx hb hK hP hD hS 3 2 rfl rfl (i := (x62_71 + 1)) (x := l3_71) hi_15 dX13_constant_110 ?_
    clear hP hD hS
    intro H locs hP hD hS
    replace hP : va_P (dC, dI) vwCl [(h0, .inr (13, fs_11)), (qf58, .inl (cf58, 2000, .inl (upd g58_71 ((x62_71 + 1) : Int32).toNatClampNeg l1_71))), (qf59, .inl (cf59, 2000, .inl (upd g59_71 ((x62_71 + 1) : Int32).toNatClampNeg l2_71))), (qf60, .inl (cf60, 2000, .inl (upd g60_71 ((x62_71 + 1) : Int32).toNatClampNeg l3_71))), (qf61, .inl (cf61, 2000, .inl g61_71))] H := hP
    replace hD : va_D A [(h0, .inr (13, fs_11)), (qf58, .inl (cf58, 2000, .inl (upd g58_71 ((x62_71 + 1) : Int32).toNatClampNeg l1_71))), (qf59, .inl (cf59, 2000, .inl (upd g59_71 ((x62_71 + 1) : Int32).toNatClampNeg l2_71))), (qf60, .inl (cf60, 2000, .inl (upd g60_71 ((x62_71 + 1) : Int32).toNatClampNeg l3_71))), (qf61, .inl (cf61, 2000, .inl g61_71))] := hD
    refine lv_aload_n hx hb dX13_constant_111 rfl (lv_at hl 0 rfl) ?_
    refine va_get (D := (dC, dI)) (ci := 13) (v := .ref qf61) (C := RX13) (T := TX13) (N := 155) hx hb hts uV_h9_X13 hown hK hP 0 rfl rfl 61 (by decide) (hts (.fieldLink RX13 137 "ClassMillModel" "constantThree" "[I") mw_h9_166) (fun _ h9 => h9) hfs_11_61 dX13_constant_112 ?_
    refine lv_aload_n hx hb dX13_constant_115 rfl (lv_at hl 0 rfl) ?_
    refine va_get (D := (dC, dI)) (ci := 13) (v := .int (x62_71 + 1)) (C := RX13) (T := TX13) (N := 155) hx hb hts uV_h9_X13 hown hK hP 0 rfl rfl 62 (by decide) (hts (.fieldLink RX13 602 "ClassMillModel" "constants" "I") mw_h9_162) (fun _ h9 => h9) hfs_11_62 dX13_constant_116 ?_
    refine lv_iload hx hb dX13_constant_119 (lv_at hl 4 rfl) ?_
    obtain ⟨hi_16, hsp⟩ := ox_in hsp
    refine va_iast hx hb hK hP hD hS 4 3 rfl rfl (i := (x62_71 + 1)) (x := l4_71) hi_16 dX13_constant_121 ?_
    clear hP hD hS
    intro H locs hP hD hS
    replace hP : va_P (dC, dI) vwCl [(h0, .inr (13, fs_11)), (qf58, .inl (cf58, 2000, .inl (upd g58_71 ((x62_71 + 1) : Int32).toNatClampNeg l1_71))), (qf59, .inl (cf59, 2000, .inl (upd g59_71 ((x62_71 + 1) : Int32).toNatClampNeg l2_71))), (qf60, .inl (cf60, 2000, .inl (upd g60_71 ((x62_71 + 1) : Int32).toNatClampNeg l3_71))), (qf61, .inl (cf61, 2000, .inl (upd g61_71 ((x62_71 + 1) : Int32).toNatClampNeg l4_71)))] H := hP
    replace hD : va_D A [(h0, .inr (13, fs_11)), (qf58, .inl (cf58, 2000, .inl (upd g58_71 ((x62_71 + 1) : Int32).toNatClampNeg l1_71))), (qf59, .inl (cf59, 2000, .inl (upd g59_71 ((x62_71 + 1) : Int32).toNatClampNeg l2_71))), (qf60, .inl (cf60, 2000, .inl (upd g60_71 ((x62_71 + 1) : Int32).toNatClampNeg l3_71))), (qf61, .inl (cf61, 2000, .inl (upd g61_71 ((x62_71 + 1) : Int32).toNatClampNeg l4_71)))] := hD
    refine lv_aload_n hx hb dX13_constant_122 rfl (lv_at hl 0 rfl) ?_
    refine va_get (D := (dC, dI)) (ci := 13) (v := .int (x62_71 + 1)) (C := RX13) (T := TX13) (N := 155) hx hb hts uV_h9_X13 hown hK hP 0 rfl rfl 62 (by decide) (hts (.fieldLink RX13 602 "ClassMillModel" "constants" "I") mw_h9_162) (fun _ h9 => h9) hfs_11_62 dX13_constant_123 ?_
    have hr0 := Option.some.inj hsp
    clear hsp
    obtain ⟨hq0, hr1⟩ := Prod.mk.inj hr0
    clear hr0
    obtain ⟨hq1, hr2⟩ := Prod.mk.inj hr1
    clear hr1
    obtain ⟨hq2, hr3⟩ := Prod.mk.inj hr2
    clear hr2
    obtain ⟨hq3, hr4⟩ := Prod.mk.inj hr3
    clear hr3
    obtain ⟨hq4, hr5⟩ := Prod.mk.inj hr4
    clear hr4
    subst hq0
    subst hq1
    subst hq2
    subst hq3
    subst hq4
    subst hr5
    have hP9 := hP.sub (ws' := [(h0, .inr (13, fs_11)), (qf58, .inl (cf58, 2000, .inl (upd g58_71 ((x62_71 + 1) : Int32).toNatClampNeg l1_71))), (qf59, .inl (cf59, 2000, .inl (upd g59_71 ((x62_71 + 1) : Int32).toNatClampNeg l2_71))), (qf60, .inl (cf60, 2000, .inl (upd g60_71 ((x62_71 + 1) : Int32).toNatClampNeg l3_71))), (qf61, .inl (cf61, 2000, .inl (upd g61_71 ((x62_71 + 1) : Int32).toNatClampNeg l4_71)))]) [0, 1, 2, 3, 4] rfl
    have hD9 := hD.sub (ws' := [(h0, .inr (13, fs_11)), (qf58, .inl (cf58, 2000, .inl (upd g58_71 ((x62_71 + 1) : Int32).toNatClampNeg l1_71))), (qf59, .inl (cf59, 2000, .inl (upd g59_71 ((x62_71 + 1) : Int32).toNatClampNeg l2_71))), (qf60, .inl (cf60, 2000, .inl (upd g60_71 ((x62_71 + 1) : Int32).toNatClampNeg l3_71))), (qf61, .inl (cf61, 2000, .inl (upd g61_71 ((x62_71 + 1) : Int32).toNatClampNeg l4_71)))]) [0, 1, 2, 3, 4] (by decide) rfl
    have hK9 := hK.sub (tys' := [(cf58, .int), (cf59, .int), (cf60, .int), (cf61, .int)]) [0, 1, 2, 3] rfl
    exact W.iret hx hb hr (fun t ht hW => ⟨⟨((x62_71 + 1)), (fs_11), rfl, ⟨rfl, hlfs_11, hrs_12, hfs_11_62⟩, by rw [ht]; exact hP9, va_K.moved hW.alike hK9, hD9⟩, hS.F ht⟩) hS.2.2 dX13_constant_126
  intro hj_71
  refine lv_iload_n hx hb dX13_constant_0 rfl (lv_at hl 1 rfl) ?_
  refine lv_iconst (v := 1) hx hb dX13_constant_1 (by decide) ?_
  refine lv_icmp_le (tgt := 71) hx hb dX13_constant_2 (by decide) (fun c_1 => ?_) (fun c_1 => ?_)
  · rw [if_pos c_1] at hsp
    exact hj_71 (H, locs, ls, zs, a1, a2, a3, a4, f58, f59, f60, f61, v62) ⟨lv_sub hl [0, 1, 2, 3, 4] rfl, hS, hD.sub (ws' := [(h0, .inr (13, zs)), (qf58, .inl (cf58, 2000, .inl f58)), (qf59, .inl (cf59, 2000, .inl f59)), (qf60, .inl (cf60, 2000, .inl f60)), (qf61, .inl (cf61, 2000, .inl f61))]) [0, 1, 2, 3, 4] (by decide) rfl, hP.sub (ws' := [(h0, .inr (13, zs)), (qf58, .inl (cf58, 2000, .inl f58)), (qf59, .inl (cf59, 2000, .inl f59)), (qf60, .inl (cf60, 2000, .inl f60)), (qf61, .inl (cf61, 2000, .inl f61))]) [0, 1, 2, 3, 4] rfl, hf58, hf59, hf60, hf61, hf62, hlen, hrs0, hsp⟩
  · rw [if_neg c_1] at hsp
    refine lv_iconst (v := 1) hx hb dX13_constant_5 (by decide) ?_
    refine lv_istore (lv' := [(5, .int 1), (0, .ref h0), (1, .int a1), (2, .int a2), (3, .int a3), (4, .int a4)]) hx hb dX13_constant_6 hl (by decide) rfl (fun ls hl => ?_)
    replace hl : lv_has ls 6 [(5, .int 1), (0, .ref h0), (1, .int a1), (2, .int a2), (3, .int a3), (4, .int a4)] := lv_sub hl [0, 1, 2, 3, 4, 5] rfl
    replace hP := hP.sub (ws' := [(h0, .inr (13, zs)), (qf58, .inl (cf58, 2000, .inl f58)), (qf59, .inl (cf59, 2000, .inl f59)), (qf60, .inl (cf60, 2000, .inl f60)), (qf61, .inl (cf61, 2000, .inl f61))]) [0, 1, 2, 3, 4] rfl
    replace hD := hD.sub (ws' := [(h0, .inr (13, zs)), (qf58, .inl (cf58, 2000, .inl f58)), (qf59, .inl (cf59, 2000, .inl f59)), (qf60, .inl (cf60, 2000, .inl f60)), (qf61, .inl (cf61, 2000, .inl f61))]) [0, 1, 2, 3, 4] (by decide) rfl
    replace hK := hK.sub (tys' := [(cf58, .int), (cf59, .int), (cf60, .int), (cf61, .int)]) [0, 1, 2, 3] rfl
    obtain ⟨n_8, hn_8⟩ : ∃ z : Nat, z = nf := ⟨_, rfl⟩
    obtain ⟨l1_8, el1_8⟩ : ∃ z : Int32, z = a1 := ⟨_, rfl⟩
    obtain ⟨l2_8, el2_8⟩ : ∃ z : Int32, z = a2 := ⟨_, rfl⟩
    obtain ⟨l3_8, el3_8⟩ : ∃ z : Int32, z = a3 := ⟨_, rfl⟩
    obtain ⟨l4_8, el4_8⟩ : ∃ z : Int32, z = a4 := ⟨_, rfl⟩
    obtain ⟨l5_8, el5_8⟩ : ∃ z : Int32, z = 1 := ⟨_, rfl⟩
    obtain ⟨g58_8, eg58_8⟩ : ∃ z : Nat → Int32, z = f58 := ⟨_, rfl⟩
    obtain ⟨g59_8, eg59_8⟩ : ∃ z : Nat → Int32, z = f59 := ⟨_, rfl⟩
    obtain ⟨g60_8, eg60_8⟩ : ∃ z : Nat → Int32, z = f60 := ⟨_, rfl⟩
    obtain ⟨g61_8, eg61_8⟩ : ∃ z : Nat → Int32, z = f61 := ⟨_, rfl⟩
    obtain ⟨x62_8, ex62_8⟩ : ∃ z : Int32, z = v62 := ⟨_, rfl⟩
    replace hsp : lp_vm_constant_8 nf n_8 a1 a2 a3 a4 v62 f58 f59 f60 f61 l1_8 l2_8 l3_8 l4_8 l5_8 g58_8 g59_8 g60_8 g61_8 x62_8 = some (r0, o58, o59, o60, o61, w62) := by rw [hn_8, el1_8, el2_8, el3_8, el4_8, el5_8, eg58_8, eg59_8, eg60_8, eg61_8, ex62_8]; exact hsp
    replace hl : lv_has ls 6 [(5, .int l5_8), (0, .ref h0), (1, .int l1_8), (2, .int l2_8), (3, .int l3_8), (4, .int l4_8)] := by rw [el1_8, el2_8, el3_8, el4_8, el5_8]; exact hl
    obtain ⟨z8, ez8⟩ : ∃ z : List Value, z = zs := ⟨_, rfl⟩
    have hfh_8_58 : z8[58]? = some (.ref qf58) := by rw [ez8]; exact hf58
    have hfh_8_59 : z8[59]? = some (.ref qf59) := by rw [ez8]; exact hf59
    have hfh_8_60 : z8[60]? = some (.ref qf60) := by rw [ez8]; exact hf60
    have hfh_8_61 : z8[61]? = some (.ref qf61) := by rw [ez8]; exact hf61
    have hfh_8_62 : z8[62]? = some (.int x62_8) := by rw [ez8, ex62_8]; exact hf62
    have hlh_8 : z8.length = 155 := by rw [ez8]; exact hlen
    have hrh_8 : ∀ j : Nat, j ≠ 62 → z8[j]? = zs[j]? := by rw [ez8]; exact hrs0
    replace hP : va_P (dC, dI) vwCl [(h0, .inr (13, z8)), (qf58, .inl (cf58, 2000, .inl g58_8)), (qf59, .inl (cf59, 2000, .inl g59_8)), (qf60, .inl (cf60, 2000, .inl g60_8)), (qf61, .inl (cf61, 2000, .inl g61_8))] H := by rw [ez8, eg58_8, eg59_8, eg60_8, eg61_8]; exact hP
    replace hD : va_D A [(h0, .inr (13, z8)), (qf58, .inl (cf58, 2000, .inl g58_8)), (qf59, .inl (cf59, 2000, .inl g59_8)), (qf60, .inl (cf60, 2000, .inl g60_8)), (qf61, .inl (cf61, 2000, .inl g61_8))] := by rw [ez8, eg58_8, eg59_8, eg60_8, eg61_8]; exact hD
    clear hn_8 ez8 el1_8 el2_8 el3_8 el4_8 el5_8 eg58_8 eg59_8 eg60_8 eg61_8 ex62_8
    try clear hlo
    try clear hH
    revert hsp
    revert hP
    revert hD
    revert hS
    revert hl
    revert hrh_8
    revert hlh_8
    revert hfh_8_62
    revert hfh_8_61
    revert hfh_8_60
    revert hfh_8_59
    revert hfh_8_58
    revert x62_8
    revert g61_8
    revert g60_8
    revert g59_8
    revert g58_8
    revert l5_8
    revert l4_8
    revert l3_8
    revert l2_8
    revert l1_8
    revert z8
    revert ls
    revert locs
    revert H
    induction n_8 with
    | zero => intro H locs ls z8 l1_8 l2_8 l3_8 l4_8 l5_8 g58_8 g59_8 g60_8 g61_8 x62_8 hfh_8_58 hfh_8_59 hfh_8_60 hfh_8_61 hfh_8_62 hlh_8 hrh_8 hl hS hD hP hsp; unfold lp_vm_constant_8 at hsp; cases hsp
    | succ n_8 ih_8 =>
      intro H locs ls z8 l1_8 l2_8 l3_8 l4_8 l5_8 g58_8 g59_8 g60_8 g61_8 x62_8 hfh_8_58 hfh_8_59 hfh_8_60 hfh_8_61 hfh_8_62 hlh_8 hrh_8 hl hS hD hP hsp
      unfold lp_vm_constant_8 at hsp
      try dsimp only at hsp
      refine lv_iload hx hb dX13_constant_8 (lv_at hl 0 rfl) ?_
      refine lv_aload_n hx hb dX13_constant_10 rfl (lv_at hl 1 rfl) ?_
      refine va_get (D := (dC, dI)) (ci := 13) (v := .int x62_8) (C := RX13) (T := TX13) (N := 155) hx hb hts uV_h9_X13 hown hK hP 0 rfl rfl 62 (by decide) (hts (.fieldLink RX13 602 "ClassMillModel" "constants" "I") mw_h9_162) (fun _ h9 => h9) hfh_8_62 dX13_constant_11 ?_
      refine lv_icmp_gt (tgt := 71) hx hb dX13_constant_14 (by decide) (fun c_2 => ?_) (fun c_2 => ?_)
      · rw [if_pos c_2] at hsp
        exact hj_71 (H, locs, ls, z8, l1_8, l2_8, l3_8, l4_8, g58_8, g59_8, g60_8, g61_8, x62_8) ⟨lv_sub hl [1, 2, 3, 4, 5] rfl, hS, hD.sub (ws' := [(h0, .inr (13, z8)), (qf58, .inl (cf58, 2000, .inl g58_8)), (qf59, .inl (cf59, 2000, .inl g59_8)), (qf60, .inl (cf60, 2000, .inl g60_8)), (qf61, .inl (cf61, 2000, .inl g61_8))]) [0, 1, 2, 3, 4] (by decide) rfl, hP.sub (ws' := [(h0, .inr (13, z8)), (qf58, .inl (cf58, 2000, .inl g58_8)), (qf59, .inl (cf59, 2000, .inl g59_8)), (qf60, .inl (cf60, 2000, .inl g60_8)), (qf61, .inl (cf61, 2000, .inl g61_8))]) [0, 1, 2, 3, 4] rfl, hfh_8_58, hfh_8_59, hfh_8_60, hfh_8_61, hfh_8_62, hlh_8, hrh_8, hsp⟩
      · rw [if_neg c_2] at hsp
        refine lv_aload_n hx hb dX13_constant_17 rfl (lv_at hl 1 rfl) ?_
        refine va_get (D := (dC, dI)) (ci := 13) (v := .ref qf58) (C := RX13) (T := TX13) (N := 155) hx hb hts uV_h9_X13 hown hK hP 0 rfl rfl 58 (by decide) (hts (.fieldLink RX13 128 "ClassMillModel" "constantSort" "[I") mw_h9_163) (fun _ h9 => h9) hfh_8_58 dX13_constant_18 ?_
        refine lv_iload hx hb dX13_constant_21 (lv_at hl 0 rfl) ?_
        obtain ⟨hi_3, hsp⟩ := ox_in hsp
        refine va_iald hx hb hK hP 1 0 rfl rfl (i := l5_8) hi_3 dX13_constant_23 ?_
        refine lv_iload_n hx hb dX13_constant_24 rfl (lv_at hl 2 rfl) ?_
        refine lv_icmp_ne (tgt := 65) hx hb dX13_constant_25 (by decide) (fun c_4 => ?_) (fun c_4 => ?_)
        · rw [if_neg c_4] at hsp
          refine lv_iinc (v := (l5_8 + 1)) (lv' := [(5, .int (l5_8 + 1)), (0, .ref h0), (1, .int l1_8), (2, .int l2_8), (3, .int l3_8), (4, .int l4_8)]) hx hb dX13_constant_65 hl (k := 0) rfl rfl (by decide) rfl (fun ls hl => ?_)
          refine lv_goto (tgt := 8) hx hb dX13_constant_68 (by decide) ?_
          exact ih_8 H locs ls z8 l1_8 l2_8 l3_8 l4_8 (l5_8 + 1) g58_8 g59_8 g60_8 g61_8 x62_8 (hfh_8_58) (hfh_8_59) (hfh_8_60) (hfh_8_61) (hfh_8_62) hlh_8 hrh_8 (lv_sub hl [0, 1, 2, 3, 4, 5] rfl) hS (hD.sub (ws' := [(h0, .inr (13, z8)), (qf58, .inl (cf58, 2000, .inl g58_8)), (qf59, .inl (cf59, 2000, .inl g59_8)), (qf60, .inl (cf60, 2000, .inl g60_8)), (qf61, .inl (cf61, 2000, .inl g61_8))]) [0, 1, 2, 3, 4] (by decide) rfl) (hP.sub (ws' := [(h0, .inr (13, z8)), (qf58, .inl (cf58, 2000, .inl g58_8)), (qf59, .inl (cf59, 2000, .inl g59_8)), (qf60, .inl (cf60, 2000, .inl g60_8)), (qf61, .inl (cf61, 2000, .inl g61_8))]) [0, 1, 2, 3, 4] rfl) hsp
        · rw [if_pos c_4] at hsp
          refine lv_aload_n hx hb dX13_constant_28 rfl (lv_at hl 1 rfl) ?_
          refine va_get (D := (dC, dI)) (ci := 13) (v := .ref qf59) (C := RX13) (T := TX13) (N := 155) hx hb hts uV_h9_X13 hown hK hP 0 rfl rfl 59 (by decide) (hts (.fieldLink RX13 131 "ClassMillModel" "constantOne" "[I") mw_h9_164) (fun _ h9 => h9) hfh_8_59 dX13_constant_29 ?_
          refine lv_iload hx hb dX13_constant_32 (lv_at hl 0 rfl) ?_
          obtain ⟨hi_5, hsp⟩ := ox_in hsp
          refine va_iald hx hb hK hP 2 1 rfl rfl (i := l5_8) hi_5 dX13_constant_34 ?_
          refine lv_iload_n hx hb dX13_constant_35 rfl (lv_at hl 3 rfl) ?_
          refine lv_icmp_ne (tgt := 65) hx hb dX13_constant_36 (by decide) (fun c_6 => ?_) (fun c_6 => ?_)
          · rw [if_neg c_6] at hsp
            refine lv_iinc (v := (l5_8 + 1)) (lv' := [(5, .int (l5_8 + 1)), (0, .ref h0), (1, .int l1_8), (2, .int l2_8), (3, .int l3_8), (4, .int l4_8)]) hx hb dX13_constant_65 hl (k := 0) rfl rfl (by decide) rfl (fun ls hl => ?_)
            refine lv_goto (tgt := 8) hx hb dX13_constant_68 (by decide) ?_
            exact ih_8 H locs ls z8 l1_8 l2_8 l3_8 l4_8 (l5_8 + 1) g58_8 g59_8 g60_8 g61_8 x62_8 (hfh_8_58) (hfh_8_59) (hfh_8_60) (hfh_8_61) (hfh_8_62) hlh_8 hrh_8 (lv_sub hl [0, 1, 2, 3, 4, 5] rfl) hS (hD.sub (ws' := [(h0, .inr (13, z8)), (qf58, .inl (cf58, 2000, .inl g58_8)), (qf59, .inl (cf59, 2000, .inl g59_8)), (qf60, .inl (cf60, 2000, .inl g60_8)), (qf61, .inl (cf61, 2000, .inl g61_8))]) [0, 1, 2, 3, 4] (by decide) rfl) (hP.sub (ws' := [(h0, .inr (13, z8)), (qf58, .inl (cf58, 2000, .inl g58_8)), (qf59, .inl (cf59, 2000, .inl g59_8)), (qf60, .inl (cf60, 2000, .inl g60_8)), (qf61, .inl (cf61, 2000, .inl g61_8))]) [0, 1, 2, 3, 4] rfl) hsp
          · rw [if_pos c_6] at hsp
            refine lv_aload_n hx hb dX13_constant_39 rfl (lv_at hl 1 rfl) ?_
            refine va_get (D := (dC, dI)) (ci := 13) (v := .ref qf60) (C := RX13) (T := TX13) (N := 155) hx hb hts uV_h9_X13 hown hK hP 0 rfl rfl 60 (by decide) (hts (.fieldLink RX13 134 "ClassMillModel" "constantTwo" "[I") mw_h9_165) (fun _ h9 => h9) hfh_8_60 dX13_constant_40 ?_
            refine lv_iload hx hb dX13_constant_43 (lv_at hl 0 rfl) ?_
            obtain ⟨hi_7, hsp⟩ := ox_in hsp
            refine va_iald hx hb hK hP 3 2 rfl rfl (i := l5_8) hi_7 dX13_constant_45 ?_
            refine lv_iload_n hx hb dX13_constant_46 rfl (lv_at hl 4 rfl) ?_
            refine lv_icmp_ne (tgt := 65) hx hb dX13_constant_47 (by decide) (fun c_8 => ?_) (fun c_8 => ?_)
            · rw [if_neg c_8] at hsp
              refine lv_iinc (v := (l5_8 + 1)) (lv' := [(5, .int (l5_8 + 1)), (0, .ref h0), (1, .int l1_8), (2, .int l2_8), (3, .int l3_8), (4, .int l4_8)]) hx hb dX13_constant_65 hl (k := 0) rfl rfl (by decide) rfl (fun ls hl => ?_)
              refine lv_goto (tgt := 8) hx hb dX13_constant_68 (by decide) ?_
              exact ih_8 H locs ls z8 l1_8 l2_8 l3_8 l4_8 (l5_8 + 1) g58_8 g59_8 g60_8 g61_8 x62_8 (hfh_8_58) (hfh_8_59) (hfh_8_60) (hfh_8_61) (hfh_8_62) hlh_8 hrh_8 (lv_sub hl [0, 1, 2, 3, 4, 5] rfl) hS (hD.sub (ws' := [(h0, .inr (13, z8)), (qf58, .inl (cf58, 2000, .inl g58_8)), (qf59, .inl (cf59, 2000, .inl g59_8)), (qf60, .inl (cf60, 2000, .inl g60_8)), (qf61, .inl (cf61, 2000, .inl g61_8))]) [0, 1, 2, 3, 4] (by decide) rfl) (hP.sub (ws' := [(h0, .inr (13, z8)), (qf58, .inl (cf58, 2000, .inl g58_8)), (qf59, .inl (cf59, 2000, .inl g59_8)), (qf60, .inl (cf60, 2000, .inl g60_8)), (qf61, .inl (cf61, 2000, .inl g61_8))]) [0, 1, 2, 3, 4] rfl) hsp
            · rw [if_pos c_8] at hsp
              refine lv_aload_n hx hb dX13_constant_50 rfl (lv_at hl 1 rfl) ?_
              refine va_get (D := (dC, dI)) (ci := 13) (v := .ref qf61) (C := RX13) (T := TX13) (N := 155) hx hb hts uV_h9_X13 hown hK hP 0 rfl rfl 61 (by decide) (hts (.fieldLink RX13 137 "ClassMillModel" "constantThree" "[I") mw_h9_166) (fun _ h9 => h9) hfh_8_61 dX13_constant_51 ?_
              refine lv_iload hx hb dX13_constant_54 (lv_at hl 0 rfl) ?_
              obtain ⟨hi_9, hsp⟩ := ox_in hsp
              refine va_iald hx hb hK hP 4 3 rfl rfl (i := l5_8) hi_9 dX13_constant_56 ?_
              refine lv_iload hx hb dX13_constant_57 (lv_at hl 5 rfl) ?_
              refine lv_icmp_ne (tgt := 65) hx hb dX13_constant_59 (by decide) (fun c_10 => ?_) (fun c_10 => ?_)
              · rw [if_neg c_10] at hsp
                refine lv_iinc (v := (l5_8 + 1)) (lv' := [(5, .int (l5_8 + 1)), (0, .ref h0), (1, .int l1_8), (2, .int l2_8), (3, .int l3_8), (4, .int l4_8)]) hx hb dX13_constant_65 hl (k := 0) rfl rfl (by decide) rfl (fun ls hl => ?_)
                refine lv_goto (tgt := 8) hx hb dX13_constant_68 (by decide) ?_
                exact ih_8 H locs ls z8 l1_8 l2_8 l3_8 l4_8 (l5_8 + 1) g58_8 g59_8 g60_8 g61_8 x62_8 (hfh_8_58) (hfh_8_59) (hfh_8_60) (hfh_8_61) (hfh_8_62) hlh_8 hrh_8 (lv_sub hl [0, 1, 2, 3, 4, 5] rfl) hS (hD.sub (ws' := [(h0, .inr (13, z8)), (qf58, .inl (cf58, 2000, .inl g58_8)), (qf59, .inl (cf59, 2000, .inl g59_8)), (qf60, .inl (cf60, 2000, .inl g60_8)), (qf61, .inl (cf61, 2000, .inl g61_8))]) [0, 1, 2, 3, 4] (by decide) rfl) (hP.sub (ws' := [(h0, .inr (13, z8)), (qf58, .inl (cf58, 2000, .inl g58_8)), (qf59, .inl (cf59, 2000, .inl g59_8)), (qf60, .inl (cf60, 2000, .inl g60_8)), (qf61, .inl (cf61, 2000, .inl g61_8))]) [0, 1, 2, 3, 4] rfl) hsp
              · rw [if_pos c_10] at hsp
                refine lv_iload hx hb dX13_constant_62 (lv_at hl 0 rfl) ?_
                have hr0 := Option.some.inj hsp
                clear hsp
                obtain ⟨hq0, hr1⟩ := Prod.mk.inj hr0
                clear hr0
                obtain ⟨hq1, hr2⟩ := Prod.mk.inj hr1
                clear hr1
                obtain ⟨hq2, hr3⟩ := Prod.mk.inj hr2
                clear hr2
                obtain ⟨hq3, hr4⟩ := Prod.mk.inj hr3
                clear hr3
                obtain ⟨hq4, hr5⟩ := Prod.mk.inj hr4
                clear hr4
                subst hq0
                subst hq1
                subst hq2
                subst hq3
                subst hq4
                subst hr5
                have hP9 := hP.sub (ws' := [(h0, .inr (13, z8)), (qf58, .inl (cf58, 2000, .inl g58_8)), (qf59, .inl (cf59, 2000, .inl g59_8)), (qf60, .inl (cf60, 2000, .inl g60_8)), (qf61, .inl (cf61, 2000, .inl g61_8))]) [0, 1, 2, 3, 4] rfl
                have hD9 := hD.sub (ws' := [(h0, .inr (13, z8)), (qf58, .inl (cf58, 2000, .inl g58_8)), (qf59, .inl (cf59, 2000, .inl g59_8)), (qf60, .inl (cf60, 2000, .inl g60_8)), (qf61, .inl (cf61, 2000, .inl g61_8))]) [0, 1, 2, 3, 4] (by decide) rfl
                have hK9 := hK.sub (tys' := [(cf58, .int), (cf59, .int), (cf60, .int), (cf61, .int)]) [0, 1, 2, 3] rfl
                exact W.iret hx hb hr (fun t ht hW => ⟨⟨(l5_8), (z8), rfl, ⟨rfl, hlh_8, hrh_8, hfh_8_62⟩, by rw [ht]; exact hP9, va_K.moved hW.alike hK9, hD9⟩, hS.F ht⟩) hS.2.2 dX13_constant_64
def lp_vm_frame_192 (nf n : Nat) (a1 : Int32) (v50 : Int32) (v52 : Int32) (v53 : Int32) (v70 : Int32) (v78 : Int32) (v79 : Int32) (f73 : Nat → Int32) (f74 : Nat → Int32) (f75 : Nat → Int32) (f76 : Nat → Int32) (f77 : Nat → Int32) (f69 : Nat → Int32) (f49 : Nat → Int32)  (l3_192 : Int32) (l4_192 : Int32) (g73_192 : Nat → Int32) (g74_192 : Nat → Int32) (g75_192 : Nat → Int32) (g76_192 : Nat → Int32) (g77_192 : Nat → Int32) (x78_192 : Int32) (x79_192 : Int32) : Option ((Nat → Int32) × (Nat → Int32) × (Nat → Int32) × (Nat → Int32) × (Nat → Int32) × Int32 × Int32) := match n with
  | 0 => none
  | n + 1 => (if v70 ≤ l4_192 then (some (g73_192, g74_192, g75_192, g76_192, g77_192, x78_192, (x79_192 + ((l3_192 + v50) + v70)))) else (if l4_192 < 0 then none else if 3000 ≤ (l4_192 : Int32).toNatClampNeg then none else (if (((x79_192 + l3_192) + v50) + l4_192) < 0 then none else if 60000 ≤ ((((x79_192 + l3_192) + v50) + l4_192) : Int32).toNatClampNeg then none else (lp_vm_frame_192 nf n a1 v50 v52 v53 v70 v78 v79 f73 f74 f75 f76 f77 f69 f49 l3_192 (l4_192 + 1) g73_192 g74_192 g75_192 g76_192 (upd g77_192 ((((x79_192 + l3_192) + v50) + l4_192) : Int32).toNatClampNeg (f69 (l4_192 : Int32).toNatClampNeg)) x78_192 x79_192))))
def lp_vm_frame_153 (nf n : Nat) (a1 : Int32) (v50 : Int32) (v52 : Int32) (v53 : Int32) (v70 : Int32) (v78 : Int32) (v79 : Int32) (f73 : Nat → Int32) (f74 : Nat → Int32) (f75 : Nat → Int32) (f76 : Nat → Int32) (f77 : Nat → Int32) (f69 : Nat → Int32) (f49 : Nat → Int32)  (l3_153 : Int32) (l4_153 : Int32) (g73_153 : Nat → Int32) (g74_153 : Nat → Int32) (g75_153 : Nat → Int32) (g76_153 : Nat → Int32) (g77_153 : Nat → Int32) (x78_153 : Int32) (x79_153 : Int32) : Option ((Nat → Int32) × (Nat → Int32) × (Nat → Int32) × (Nat → Int32) × (Nat → Int32) × Int32 × Int32) := match n with
  | 0 => none
  | n + 1 => (if v50 ≤ l4_153 then (lp_vm_frame_192 nf nf a1 v50 v52 v53 v70 v78 v79 f73 f74 f75 f76 f77 f69 f49  l3_153 0 g73_153 g74_153 g75_153 g76_153 g77_153 x78_153 x79_153) else (if l4_153 < 0 then none else if 3000 ≤ (l4_153 : Int32).toNatClampNeg then none else (if ((x79_153 + l3_153) + l4_153) < 0 then none else if 60000 ≤ (((x79_153 + l3_153) + l4_153) : Int32).toNatClampNeg then none else (lp_vm_frame_153 nf n a1 v50 v52 v53 v70 v78 v79 f73 f74 f75 f76 f77 f69 f49 l3_153 (l4_153 + 1) g73_153 g74_153 g75_153 g76_153 (upd g77_153 (((x79_153 + l3_153) + l4_153) : Int32).toNatClampNeg (f49 (l4_153 : Int32).toNatClampNeg)) x78_153 x79_153))))
def jn_vm_frame_150 (nf : Nat) (a1 : Int32) (v50 : Int32) (v52 : Int32) (v53 : Int32) (v70 : Int32) (v78 : Int32) (v79 : Int32) (f73 : Nat → Int32) (f74 : Nat → Int32) (f75 : Nat → Int32) (f76 : Nat → Int32) (f77 : Nat → Int32) (f69 : Nat → Int32) (f49 : Nat → Int32)  (l3_150 : Int32) (g73_150 : Nat → Int32) (g74_150 : Nat → Int32) (g75_150 : Nat → Int32) (g76_150 : Nat → Int32) (g77_150 : Nat → Int32) (x78_150 : Int32) (x79_150 : Int32) : Option ((Nat → Int32) × (Nat → Int32) × (Nat → Int32) × (Nat → Int32) × (Nat → Int32) × Int32 × Int32) := (lp_vm_frame_153 nf nf a1 v50 v52 v53 v70 v78 v79 f73 f74 f75 f76 f77 f69 f49  l3_150 0 g73_150 g74_150 g75_150 g76_150 g77_150 x78_150 x79_150)
def jn_vm_frame_80 (nf : Nat) (a1 : Int32) (v50 : Int32) (v52 : Int32) (v53 : Int32) (v70 : Int32) (v78 : Int32) (v79 : Int32) (f73 : Nat → Int32) (f74 : Nat → Int32) (f75 : Nat → Int32) (f76 : Nat → Int32) (f77 : Nat → Int32) (f69 : Nat → Int32) (f49 : Nat → Int32)  (l2_80 : Int32) (s0_80 : Int32) (g73_80 : Nat → Int32) (g74_80 : Nat → Int32) (g75_80 : Nat → Int32) (g76_80 : Nat → Int32) (g77_80 : Nat → Int32) (x78_80 : Int32) (x79_80 : Int32) : Option ((Nat → Int32) × (Nat → Int32) × (Nat → Int32) × (Nat → Int32) × (Nat → Int32) × Int32 × Int32) := (if l2_80 < 0 then none else if 6200 ≤ (l2_80 : Int32).toNatClampNeg then none else (if l2_80 < 0 then none else if 6200 ≤ (l2_80 : Int32).toNatClampNeg then none else (if (((x79_80 + v50) + 1) + v70) ≤ 60000 then (if v53 = 0 then (if x79_80 < 0 then none else if 60000 ≤ (x79_80 : Int32).toNatClampNeg then none else (jn_vm_frame_150 nf a1 v50 v52 v53 v70 v78 v79 f73 f74 f75 f76 f77 f69 f49  s0_80 g73_80 g74_80 (upd g75_80 (l2_80 : Int32).toNatClampNeg (v50 + s0_80)) (upd g76_80 (l2_80 : Int32).toNatClampNeg v70) (upd g77_80 (x79_80 : Int32).toNatClampNeg (8 + (2 * v52))) x78_80 x79_80)) else (jn_vm_frame_150 nf a1 v50 v52 v53 v70 v78 v79 f73 f74 f75 f76 f77 f69 f49  s0_80 g73_80 g74_80 (upd g75_80 (l2_80 : Int32).toNatClampNeg (v50 + s0_80)) (upd g76_80 (l2_80 : Int32).toNatClampNeg v70) g77_80 x78_80 x79_80)) else (some (g73_80, g74_80, (upd g75_80 (l2_80 : Int32).toNatClampNeg (v50 + s0_80)), (upd g76_80 (l2_80 : Int32).toNatClampNeg v70), g77_80, x78_80, x79_80)))))
def jn_vm_frame_51 (nf : Nat) (a1 : Int32) (v50 : Int32) (v52 : Int32) (v53 : Int32) (v70 : Int32) (v78 : Int32) (v79 : Int32) (f73 : Nat → Int32) (f74 : Nat → Int32) (f75 : Nat → Int32) (f76 : Nat → Int32) (f77 : Nat → Int32) (f69 : Nat → Int32) (f49 : Nat → Int32)  (l1_51 : Int32) (l2_51 : Int32) (g73_51 : Nat → Int32) (g74_51 : Nat → Int32) (g75_51 : Nat → Int32) (g76_51 : Nat → Int32) (g77_51 : Nat → Int32) (x78_51 : Int32) (x79_51 : Int32) : Option ((Nat → Int32) × (Nat → Int32) × (Nat → Int32) × (Nat → Int32) × (Nat → Int32) × Int32 × Int32) := (if l2_51 < 0 then none else if 6200 ≤ (l2_51 : Int32).toNatClampNeg then none else (if l2_51 < 0 then none else if 6200 ≤ (l2_51 : Int32).toNatClampNeg then none else (if v53 = 0 then (jn_vm_frame_80 nf a1 v50 v52 v53 v70 v78 v79 f73 f74 f75 f76 f77 f69 f49  l2_51 1 (upd g73_51 (l2_51 : Int32).toNatClampNeg l1_51) (upd g74_51 (l2_51 : Int32).toNatClampNeg x79_51) g75_51 g76_51 g77_51 x78_51 x79_51) else (jn_vm_frame_80 nf a1 v50 v52 v53 v70 v78 v79 f73 f74 f75 f76 f77 f69 f49  l2_51 0 (upd g73_51 (l2_51 : Int32).toNatClampNeg l1_51) (upd g74_51 (l2_51 : Int32).toNatClampNeg x79_51) g75_51 g76_51 g77_51 x78_51 x79_51))))
def lp_vm_frame_7 (nf n : Nat) (a1 : Int32) (v50 : Int32) (v52 : Int32) (v53 : Int32) (v70 : Int32) (v78 : Int32) (v79 : Int32) (f73 : Nat → Int32) (f74 : Nat → Int32) (f75 : Nat → Int32) (f76 : Nat → Int32) (f77 : Nat → Int32) (f69 : Nat → Int32) (f49 : Nat → Int32)  (l1_7 : Int32) (l2_7 : Int32) (l3_7 : Int32) (g73_7 : Nat → Int32) (g74_7 : Nat → Int32) (g75_7 : Nat → Int32) (g76_7 : Nat → Int32) (g77_7 : Nat → Int32) (x78_7 : Int32) (x79_7 : Int32) : Option ((Nat → Int32) × (Nat → Int32) × (Nat → Int32) × (Nat → Int32) × (Nat → Int32) × Int32 × Int32) := match n with
  | 0 => none
  | n + 1 => (if x78_7 ≤ l3_7 then (if l2_7 = x78_7 then (jn_vm_frame_51 nf a1 v50 v52 v53 v70 v78 v79 f73 f74 f75 f76 f77 f69 f49  l1_7 l2_7 g73_7 g74_7 g75_7 g76_7 g77_7 (x78_7 + 1) x79_7) else (jn_vm_frame_51 nf a1 v50 v52 v53 v70 v78 v79 f73 f74 f75 f76 f77 f69 f49  l1_7 l2_7 g73_7 g74_7 g75_7 g76_7 g77_7 x78_7 x79_7)) else (if l3_7 < 0 then none else if 6200 ≤ (l3_7 : Int32).toNatClampNeg then none else (if (g73_7 (l3_7 : Int32).toNatClampNeg) = l1_7 then (lp_vm_frame_7 nf n a1 v50 v52 v53 v70 v78 v79 f73 f74 f75 f76 f77 f69 f49 l1_7 l3_7 (l3_7 + 1) g73_7 g74_7 g75_7 g76_7 g77_7 x78_7 x79_7) else (lp_vm_frame_7 nf n a1 v50 v52 v53 v70 v78 v79 f73 f74 f75 f76 f77 f69 f49 l1_7 l2_7 (l3_7 + 1) g73_7 g74_7 g75_7 g76_7 g77_7 x78_7 x79_7))))
def sp_vm_frame (nf : Nat) (a1 : Int32) (v50 : Int32) (v52 : Int32) (v53 : Int32) (v70 : Int32) (v78 : Int32) (v79 : Int32) (f73 : Nat → Int32) (f74 : Nat → Int32) (f75 : Nat → Int32) (f76 : Nat → Int32) (f77 : Nat → Int32) (f69 : Nat → Int32) (f49 : Nat → Int32) : Option ((Nat → Int32) × (Nat → Int32) × (Nat → Int32) × (Nat → Int32) × (Nat → Int32) × Int32 × Int32) := (lp_vm_frame_7 nf nf a1 v50 v52 v53 v70 v78 v79 f73 f74 f75 f76 f77 f69 f49  a1 v78 0 f73 f74 f75 f76 f77 v78 v79)
