set_option maxHeartbeats 4000000 in
set_option maxRecDepth 100000 in
/-- ClassMillModel.strength -/
theorem vm_strength (l : Launch) (dC : Nat → ClassId) (dI : Nat → Nat → Nat) (sz : Nat) (h0 : Nat) (zs : (List Value)) (a1 : Int32) (qf4 : Nat) (qf7 : Nat) (cf4 : ClassId) (f4 : (Nat → Int32)) (cf7 : ClassId) (f7 : (Nat → Int32)) (nf : Nat) (r0 : Int32) (hlen : zs.length = 155) (hf4 : zs[4]? = some (.ref qf4)) (hf7 : zs[7]? = some (.ref qf7)) (hsp : sp_vm_strength nf a1 f4 f7 = some r0) : Met l yX13_strength (.code yX13_strength cX13_strength 3 (some .int) :: VS_h9) ({ frames := 1, cells := 0, slots := 0, locals := 22 }) (va_Pc [.ref h0, .int a1] (fun U => U.heap.size = sz ∧ va_P (dC, dI) vwCl [(h0, .inr (13, zs)), (qf4, .inl (cf4, 3008, .inl f4)), (qf7, .inl (cf7, 3002, .inl f7))] U.heap ∧ va_K (dC, dI) vwCl [(cf4, .int), (cf7, .int)] U ∧ va_D (fun _ => True) [(h0, .inr (13, zs)), (qf4, .inl (cf4, 3008, .inl f4)), (qf7, .inl (cf7, 3002, .inl f7))])) (va_Qi (fun (r : Int32) (u : (List Value)) => match u with | (zo1) => r0 = r ∧ zo1.length = 155 ∧ (∀ j : Nat, zo1[j]? = zs[j]?)) (fun (u : (List Value)) (t : State) => match u with | (zo1) => va_P (dC, dI) vwCl [(h0, .inr (13, zo1)), (qf4, .inl (cf4, 3008, .inl f4)), (qf7, .inl (cf7, 3002, .inl f7))] t.heap ∧ va_K (dC, dI) vwCl [(cf4, .int), (cf7, .int)] t ∧ va_D (va_A [(h0, .inr (13, zs)), (qf4, .inl (cf4, 3008, .inl f4)), (qf7, .inl (cf7, 3002, .inl f7))] sz) [(h0, .inr (13, zo1)), (qf4, .inl (cf4, 3008, .inl f4)), (qf7, .inl (cf7, 3002, .inl f7))]) (va_A [(h0, .inr (13, zs)), (qf4, .inl (cf4, 3008, .inl f4)), (qf7, .inl (cf7, 3002, .inl f7))] sz)) 0 0 (va_A [(h0, .inr (13, zs)), (qf4, .inl (cf4, 3008, .inl f4)), (qf7, .inl (cf7, 3002, .inl f7))] sz) := by
  refine Met.ofW (cc := cX13_strength) (maxL := 3) (ret := (some .int)) (by decide) rfl ?_
  intro p e s m args below meth c s₁ B hml hv
  obtain ⟨rfl, hsz, hP, hK, hD0⟩ := hv
  have hx := B.exec
  have hb := B.bytes
  have hr := B.returns
  have hts := atoms_spec (ws := (.code yX13_strength cX13_strength 3 (some .int) :: VS_h9)) B.pre
  replace hts := fun w (h : w ∈ VS_h9) => hts w (List.mem_cons_of_mem _ h)
  have hown : s.vm.findClass RX13 = some m.cls := findClass_of_methodNamed B.named
  have hlocks := B.notSynchronized
  subst hsz
  have hD := hD0.self (sz := s.heap.size)
  generalize hAe : va_A [(h0, .inr (13, zs)), (qf4, .inl (cf4, 3008, .inl f4)), (qf7, .inl (cf7, 3002, .inl f7))] s.heap.size = A at hD  ⊢
  have hA : ∀ q : Nat, s.heap.size ≤ q → A q := fun q h => by rw [← hAe]; exact Or.inr h
  have hP : va_P (dC, dI) vwCl [(h0, .inr (13, zs)), (qf4, .inl (cf4, 3008, .inl f4)), (qf7, .inl (cf7, 3002, .inl f7))] s.heap := hP
  have hl := lv_entry ([.ref h0, .int a1]) (n := 3) (Nat.le_of_ble_eq_true rfl)
  rw [lg_entry_eq]
  generalize (lg_sl ([.ref h0, .int a1]) ++ List.replicate (3 - (lg_sl ([.ref h0, .int a1])).length) Slot.unset).toArray = ls at hl ⊢
  have hl : lv_has ls 3 [(0, .ref h0), (1, .int a1)] := hl
  obtain ⟨H, hH⟩ : ∃ H : Heap, s.heap = H := ⟨_, rfl⟩
  rw [hH] at hP ⊢
  have hS : va_S A s.heap H [] := by rw [← hH]; exact va_S.rf
  obtain ⟨locs, hlo⟩ : ∃ locs : List Loc, locs = [] := ⟨_, rfl⟩
  rw [← hlo] at hS ⊢
  have hrs0 : ∀ j : Nat, zs[j]? = zs[j]? := fun _  => rfl
  unfold sp_vm_strength at hsp
  refine lv_aload_n hx hb dX13_strength_0 rfl (lv_at hl 0 rfl) ?_
  refine lv_iload_n hx hb dX13_strength_1 rfl (lv_at hl 1 rfl) ?_
  refine lv_bipush (v := 9) hx hb dX13_strength_2 (by decide) ?_
  obtain ⟨u1_0, hu_1, hsp⟩ := ox_bind hsp
  try dsimp only at hsp
  have hPc := hP.sub (ws' := [(h0, .inr (13, zs)), (qf4, .inl (cf4, 3008, .inl f4)), (qf7, .inl (cf7, 3002, .inl f7))]) [0, 1, 2] rfl
  have hDc := hD.sub (ws' := [(h0, .inr (13, zs)), (qf4, .inl (cf4, 3008, .inl f4)), (qf7, .inl (cf7, 3002, .inl f7))]) [0, 1, 2] (by decide) rfl
  have hKc := hK.sub (tys' := [(cf4, .int), (cf7, .int)]) [0, 1] rfl
  have hFc := va_free (wc := [(h0, .inr (13, zs)), (qf4, .inl (cf4, 3008, .inl f4)), (qf7, .inl (cf7, 3002, .inl f7))]) hD hS hA [0, 1, 2] rfl
  refine va_calli (va_runV (As := [.int a1, .int 9]) (rest := []) ⟨hx, hb, hml, hown, hts⟩ (tm_isWord l dC dI H.size h0 zs a1 9 qf4 qf7 cf4 f4 cf7 f7 nf u1_0 hlen hf4 hf7 hu_1) (cwV 2 hts gv_h9_8 rfl rfl rfl (by decide +kernel) ⟨Nat.le_of_ble_eq_true rfl, Nat.le_of_ble_eq_true rfl⟩) ⟨fun a U g mk q => by obtain ⟨q0, q1, qP, qK, qD⟩ := q; exact ⟨q0, q1, qP, va_K.moved (u := U) (U := U.calling g mk a) (Vm.Alike.refl U.vm) qK, qD⟩, va_recv hKc hPc (ci := 13) (q0 := 0) rfl rfl, fun U hU hW => ⟨rfl, by rw [hU], by rw [hU]; exact hPc, va_K.moved hW.alike hKc, hDc.weaken (fun _ _ _ _ => trivial)⟩⟩ rfl rfl hl.1 rfl (lv_room (Nat.le_of_ble_eq_true rfl)) dX13_strength_4 ⟨Nat.le_of_ble_eq_true rfl, Nat.le_of_ble_eq_true rfl⟩) hS (fun q _ h => hFc q h) hFc ?_
  clear hS
  intro r_1 u t H1 locs ht hvm hw hB hz1 hk1 hS
  obtain ⟨z_1, rfl⟩ : ∃ z, z = u := ⟨_, rfl⟩
  obtain ⟨hP1, hK1, hD1⟩ := hB
  rw [ht] at hP1
  have hK1 := va_K.moved hvm.symm hK1
  try dsimp only at hw
  have hPD := va_join (wr := []) (w1 := [(h0, .inr (13, z_1)), (qf4, .inl (cf4, 3008, .inl f4)), (qf7, .inl (cf7, 3002, .inl f7))]) hP hD [0, 1, 2] [] rfl rfl (by decide) (by decide) hk1 hFc hP1 hD1
  clear hP hD
  obtain ⟨hP, hD⟩ := hPD
  replace hK := (hK.sub (tys' := []) [] rfl).app hK1
  clear hPc hDc hKc hFc hP1 hK1 hD1 hz1 hk1 ht hvm
  generalize H1 = H at hP hS ⊢
  replace hP : va_P (dC, dI) vwCl [(h0, .inr (13, z_1)), (qf4, .inl (cf4, 3008, .inl f4)), (qf7, .inl (cf7, 3002, .inl f7))] H := hP
  replace hD : va_D A [(h0, .inr (13, z_1)), (qf4, .inl (cf4, 3008, .inl f4)), (qf7, .inl (cf7, 3002, .inl f7))] := hD
  replace hK : va_K (dC, dI) vwCl [(cf4, .int), (cf7, .int)] s := hK
  obtain ⟨hwa_1, hln_1, hre_1⟩ := hw
  have hfk_1_4 : z_1[4]? = some (.ref qf4) := (hre_1 4 ).trans (hf4)
  have hfk_1_7 : z_1[7]? = some (.ref qf7) := (hre_1 7 ).trans (hf7)
  have hrq_1 : ∀ j : Nat, z_1[j]? = zs[j]? := fun j  => (hre_1 j ).trans (hrs0 j )
  obtain ⟨rfl, hz_1⟩ := hwa_1
  rcases hz_1 with rfl | rfl
  · rw [if_pos rfl] at hsp
    refine lv_if_eq (tgt := 13) hx hb dX13_strength_7 (by decide) (fun c_2 => ?_) (fun c_2 => (show False by revert c_2; decide).elim)
    refine lv_aload_n hx hb dX13_strength_13 rfl (lv_at hl 0 rfl) ?_
    refine va_get (D := (dC, dI)) (ci := 13) (v := .ref qf4) (C := RX13) (T := TX13) (N := 155) hx hb hts uV_h9_X13 hown hK hP 0 rfl rfl 4 (by decide) (hts (.fieldLink RX13 16 "ClassMillModel" "kind" "[I") mw_h9_32) (fun _ h9 => h9) hfk_1_4 dX13_strength_14 ?_
    refine lv_iload_n hx hb dX13_strength_17 rfl (lv_at hl 1 rfl) ?_
    obtain ⟨hi_3, hsp⟩ := ox_in hsp
    refine va_iald hx hb hK hP 1 0 rfl rfl (i := a1) hi_3 dX13_strength_18 ?_
    refine lv_iconst (v := 4) hx hb dX13_strength_19 (by decide) ?_
    refine lv_icmp_eq (tgt := 25) hx hb dX13_strength_20 (by decide) (fun c_4 => ?_) (fun c_4 => ?_)
    · rw [if_pos c_4] at hsp
      refine lv_aload_n hx hb dX13_strength_25 rfl (lv_at hl 0 rfl) ?_
      refine va_get (D := (dC, dI)) (ci := 13) (v := .ref qf7) (C := RX13) (T := TX13) (N := 155) hx hb hts uV_h9_X13 hown hK hP 0 rfl rfl 7 (by decide) (hts (.fieldLink RX13 25 "ClassMillModel" "value" "[I") mw_h9_86) (fun _ h9 => h9) hfk_1_7 dX13_strength_26 ?_
      refine lv_iload_n hx hb dX13_strength_29 rfl (lv_at hl 1 rfl) ?_
      obtain ⟨hi_5, hsp⟩ := ox_in hsp
      refine va_iald hx hb hK hP 2 1 rfl rfl (i := a1) hi_5 dX13_strength_30 ?_
      refine lv_istore_n (lv' := [(2, .int (f7 (a1 : Int32).toNatClampNeg)), (0, .ref h0), (1, .int a1)]) hx hb dX13_strength_31 rfl hl (by decide) rfl (fun ls hl => ?_)
      refine lv_iload_n hx hb dX13_strength_32 rfl (lv_at hl 0 rfl) ?_
      refine lv_iconst (v := 0) hx hb dX13_strength_33 (by decide) ?_
      refine lv_bipush (v := 124) hx hb dX13_strength_34 (by decide) ?_
      refine lv_bipush (v := 124) hx hb dX13_strength_36 (by decide) ?_
      obtain ⟨u2_0, hu_2, hsp⟩ := ox_bind hsp
      try dsimp only at hsp
      have hPc := hP.sub (ws' := []) [] rfl
      have hDc := hD.sub (ws' := []) [] (by decide) rfl
      have hKc := hK.sub (tys' := []) [] rfl
      have hFc := va_free (wc := []) hD hS hA [] rfl
      refine va_calli (va_runS (As := [.int 0, .int 124, .int 124]) (rest := [.int (f7 (a1 : Int32).toNatClampNeg)]) ⟨hx, hb, hml, hown, hts⟩ (tm_sign l dC dI H.size 0 124 124 nf u2_0 hu_2) (va_cwS 3 hts gv_h9_15 rfl rfl rfl (by decide +kernel) ⟨Nat.le_of_ble_eq_true rfl, Nat.le_of_ble_eq_true rfl⟩) ⟨fun a U g mk q => by obtain ⟨q0, q1, qP, qK, qD⟩ := q; exact ⟨q0, q1, qP, va_K.moved (u := U) (U := U.calling g mk a) (Vm.Alike.refl U.vm) qK, qD⟩, fun U hU hW => ⟨rfl, by rw [hU], by rw [hU]; exact hPc, va_K.moved hW.alike hKc, hDc.weaken (fun _ _ _ _ => trivial)⟩⟩ rfl rfl hl.1 rfl (lv_room (Nat.le_of_ble_eq_true rfl)) dX13_strength_38 ⟨Nat.le_of_ble_eq_true rfl, Nat.le_of_ble_eq_true rfl⟩) hS (fun q _ h => hFc q h) hFc ?_
      clear hS
      intro r_6 u t H1 locs ht hvm hw hB hz1 hk1 hS
      obtain ⟨⟩ := u
      obtain ⟨hP1, hK1, hD1⟩ := hB
      rw [ht] at hP1
      have hK1 := va_K.moved hvm.symm hK1
      try dsimp only at hw
      have hPD := va_join (wr := [(h0, .inr (13, z_1)), (qf4, .inl (cf4, 3008, .inl f4)), (qf7, .inl (cf7, 3002, .inl f7))]) (w1 := []) hP hD [] [0, 1, 2] rfl rfl (by decide) (by decide) hk1 hFc hP1 hD1
      clear hP hD
      obtain ⟨hP, hD⟩ := hPD
      replace hK := (hK.sub (tys' := [(cf4, .int), (cf7, .int)]) [0, 1] rfl).app hK1
      clear hPc hDc hKc hFc hP1 hK1 hD1 hz1 hk1 ht hvm
      generalize H1 = H at hP hS ⊢
      replace hP : va_P (dC, dI) vwCl [(h0, .inr (13, z_1)), (qf4, .inl (cf4, 3008, .inl f4)), (qf7, .inl (cf7, 3002, .inl f7))] H := hP
      replace hD : va_D A [(h0, .inr (13, z_1)), (qf4, .inl (cf4, 3008, .inl f4)), (qf7, .inl (cf7, 3002, .inl f7))] := hD
      replace hK : va_K (dC, dI) vwCl [(cf4, .int), (cf7, .int)] s := hK
      obtain rfl := hw
      refine lv_icmp_ne (tgt := 46) hx hb dX13_strength_41 (by decide) (fun c_7 => ?_) (fun c_7 => ?_)
      · rw [if_neg c_7] at hsp
        refine lv_iload_n hx hb dX13_strength_46 rfl (lv_at hl 0 rfl) ?_
        refine lv_iconst (v := 0) hx hb dX13_strength_47 (by decide) ?_
        refine lv_bipush (v := 38) hx hb dX13_strength_48 (by decide) ?_
        refine lv_bipush (v := 38) hx hb dX13_strength_50 (by decide) ?_
        obtain ⟨u3_0, hu_3, hsp⟩ := ox_bind hsp
        try dsimp only at hsp
        have hPc := hP.sub (ws' := []) [] rfl
        have hDc := hD.sub (ws' := []) [] (by decide) rfl
        have hKc := hK.sub (tys' := []) [] rfl
        have hFc := va_free (wc := []) hD hS hA [] rfl
        refine va_calli (va_runS (As := [.int 0, .int 38, .int 38]) (rest := [.int (f7 (a1 : Int32).toNatClampNeg)]) ⟨hx, hb, hml, hown, hts⟩ (tm_sign l dC dI H.size 0 38 38 nf u3_0 hu_3) (va_cwS 3 hts gv_h9_15 rfl rfl rfl (by decide +kernel) ⟨Nat.le_of_ble_eq_true rfl, Nat.le_of_ble_eq_true rfl⟩) ⟨fun a U g mk q => by obtain ⟨q0, q1, qP, qK, qD⟩ := q; exact ⟨q0, q1, qP, va_K.moved (u := U) (U := U.calling g mk a) (Vm.Alike.refl U.vm) qK, qD⟩, fun U hU hW => ⟨rfl, by rw [hU], by rw [hU]; exact hPc, va_K.moved hW.alike hKc, hDc.weaken (fun _ _ _ _ => trivial)⟩⟩ rfl rfl hl.1 rfl (lv_room (Nat.le_of_ble_eq_true rfl)) dX13_strength_52 ⟨Nat.le_of_ble_eq_true rfl, Nat.le_of_ble_eq_true rfl⟩) hS (fun q _ h => hFc q h) hFc ?_
        clear hS
        intro r_8 u t H1 locs ht hvm hw hB hz1 hk1 hS
        obtain ⟨⟩ := u
        obtain ⟨hP1, hK1, hD1⟩ := hB
        rw [ht] at hP1
        have hK1 := va_K.moved hvm.symm hK1
        try dsimp only at hw
        have hPD := va_join (wr := [(h0, .inr (13, z_1)), (qf4, .inl (cf4, 3008, .inl f4)), (qf7, .inl (cf7, 3002, .inl f7))]) (w1 := []) hP hD [] [0, 1, 2] rfl rfl (by decide) (by decide) hk1 hFc hP1 hD1
        clear hP hD
        obtain ⟨hP, hD⟩ := hPD
        replace hK := (hK.sub (tys' := [(cf4, .int), (cf7, .int)]) [0, 1] rfl).app hK1
        clear hPc hDc hKc hFc hP1 hK1 hD1 hz1 hk1 ht hvm
        generalize H1 = H at hP hS ⊢
        replace hP : va_P (dC, dI) vwCl [(h0, .inr (13, z_1)), (qf4, .inl (cf4, 3008, .inl f4)), (qf7, .inl (cf7, 3002, .inl f7))] H := hP
        replace hD : va_D A [(h0, .inr (13, z_1)), (qf4, .inl (cf4, 3008, .inl f4)), (qf7, .inl (cf7, 3002, .inl f7))] := hD
        replace hK : va_K (dC, dI) vwCl [(cf4, .int), (cf7, .int)] s := hK
        obtain rfl := hw
        refine lv_icmp_ne (tgt := 60) hx hb dX13_strength_55 (by decide) (fun c_9 => ?_) (fun c_9 => ?_)
        · rw [if_neg c_9] at hsp
          refine lv_iload_n hx hb dX13_strength_60 rfl (lv_at hl 0 rfl) ?_
          refine lv_bipush (v := 124) hx hb dX13_strength_61 (by decide) ?_
          refine lv_icmp_ne (tgt := 68) hx hb dX13_strength_63 (by decide) (fun c_10 => ?_) (fun c_10 => ?_)
          · rw [if_neg c_10] at hsp
            refine lv_iload_n hx hb dX13_strength_68 rfl (lv_at hl 0 rfl) ?_
            refine lv_bipush (v := 94) hx hb dX13_strength_69 (by decide) ?_
            refine lv_icmp_ne (tgt := 76) hx hb dX13_strength_71 (by decide) (fun c_11 => ?_) (fun c_11 => ?_)
            · rw [if_neg c_11] at hsp
              refine lv_iload_n hx hb dX13_strength_76 rfl (lv_at hl 0 rfl) ?_
              refine lv_bipush (v := 38) hx hb dX13_strength_77 (by decide) ?_
              refine lv_icmp_ne (tgt := 84) hx hb dX13_strength_79 (by decide) (fun c_12 => ?_) (fun c_12 => ?_)
              · rw [if_neg c_12] at hsp
                refine lv_iload_n hx hb dX13_strength_84 rfl (lv_at hl 0 rfl) ?_
                refine lv_iconst (v := 0) hx hb dX13_strength_85 (by decide) ?_
                refine lv_bipush (v := 61) hx hb dX13_strength_86 (by decide) ?_
                refine lv_bipush (v := 61) hx hb dX13_strength_88 (by decide) ?_
                obtain ⟨u4_0, hu_4, hsp⟩ := ox_bind hsp
                try dsimp only at hsp
                have hPc := hP.sub (ws' := []) [] rfl
                have hDc := hD.sub (ws' := []) [] (by decide) rfl
                have hKc := hK.sub (tys' := []) [] rfl
                have hFc := va_free (wc := []) hD hS hA [] rfl
                refine va_calli (va_runS (As := [.int 0, .int 61, .int 61]) (rest := [.int (f7 (a1 : Int32).toNatClampNeg)]) ⟨hx, hb, hml, hown, hts⟩ (tm_sign l dC dI H.size 0 61 61 nf u4_0 hu_4) (va_cwS 3 hts gv_h9_15 rfl rfl rfl (by decide +kernel) ⟨Nat.le_of_ble_eq_true rfl, Nat.le_of_ble_eq_true rfl⟩) ⟨fun a U g mk q => by obtain ⟨q0, q1, qP, qK, qD⟩ := q; exact ⟨q0, q1, qP, va_K.moved (u := U) (U := U.calling g mk a) (Vm.Alike.refl U.vm) qK, qD⟩, fun U hU hW => ⟨rfl, by rw [hU], by rw [hU]; exact hPc, va_K.moved hW.alike hKc, hDc.weaken (fun _ _ _ _ => trivial)⟩⟩ rfl rfl hl.1 rfl (lv_room (Nat.le_of_ble_eq_true rfl)) dX13_strength_90 ⟨Nat.le_of_ble_eq_true rfl, Nat.le_of_ble_eq_true rfl⟩) hS (fun q _ h => hFc q h) hFc ?_
                clear hS
                intro r_13 u t H1 locs ht hvm hw hB hz1 hk1 hS
                obtain ⟨⟩ := u
                obtain ⟨hP1, hK1, hD1⟩ := hB
                rw [ht] at hP1
                have hK1 := va_K.moved hvm.symm hK1
                try dsimp only at hw
                have hPD := va_join (wr := [(h0, .inr (13, z_1)), (qf4, .inl (cf4, 3008, .inl f4)), (qf7, .inl (cf7, 3002, .inl f7))]) (w1 := []) hP hD [] [0, 1, 2] rfl rfl (by decide) (by decide) hk1 hFc hP1 hD1
                clear hP hD
                obtain ⟨hP, hD⟩ := hPD
                replace hK := (hK.sub (tys' := [(cf4, .int), (cf7, .int)]) [0, 1] rfl).app hK1
                clear hPc hDc hKc hFc hP1 hK1 hD1 hz1 hk1 ht hvm
                generalize H1 = H at hP hS ⊢
                replace hP : va_P (dC, dI) vwCl [(h0, .inr (13, z_1)), (qf4, .inl (cf4, 3008, .inl f4)), (qf7, .inl (cf7, 3002, .inl f7))] H := hP
                replace hD : va_D A [(h0, .inr (13, z_1)), (qf4, .inl (cf4, 3008, .inl f4)), (qf7, .inl (cf7, 3002, .inl f7))] := hD
                replace hK : va_K (dC, dI) vwCl [(cf4, .int), (cf7, .int)] s := hK
                obtain rfl := hw
                refine lv_icmp_eq (tgt := 108) hx hb dX13_strength_93 (by decide) (fun c_14 => ?_) (fun c_14 => ?_)
                · rw [if_pos c_14] at hsp
                  refine lv_iconst (v := 5) hx hb dX13_strength_108 (by decide) ?_
                  have hr0 := Option.some.inj hsp
                  clear hsp
                  subst hr0
                  have hP9 := hP.sub (ws' := [(h0, .inr (13, z_1)), (qf4, .inl (cf4, 3008, .inl f4)), (qf7, .inl (cf7, 3002, .inl f7))]) [0, 1, 2] rfl
                  have hD9 := hD.sub (ws' := [(h0, .inr (13, z_1)), (qf4, .inl (cf4, 3008, .inl f4)), (qf7, .inl (cf7, 3002, .inl f7))]) [0, 1, 2] (by decide) rfl
                  have hK9 := hK.sub (tys' := [(cf4, .int), (cf7, .int)]) [0, 1] rfl
                  exact W.iret hx hb hr (fun t ht hW => ⟨⟨(5), (z_1), rfl, ⟨rfl, hln_1, hrq_1⟩, by rw [ht]; exact hP9, va_K.moved hW.alike hK9, hD9⟩, hS.F ht⟩) hS.2.2 dX13_strength_109
                · rw [if_neg c_14] at hsp
                  refine lv_iload_n hx hb dX13_strength_96 rfl (lv_at hl 0 rfl) ?_
                  refine lv_iconst (v := 0) hx hb dX13_strength_97 (by decide) ?_
                  refine lv_bipush (v := 33) hx hb dX13_strength_98 (by decide) ?_
                  refine lv_bipush (v := 61) hx hb dX13_strength_100 (by decide) ?_
                  obtain ⟨u5_0, hu_5, hsp⟩ := ox_bind hsp
                  try dsimp only at hsp
                  have hPc := hP.sub (ws' := []) [] rfl
                  have hDc := hD.sub (ws' := []) [] (by decide) rfl
                  have hKc := hK.sub (tys' := []) [] rfl
                  have hFc := va_free (wc := []) hD hS hA [] rfl
                  refine va_calli (va_runS (As := [.int 0, .int 33, .int 61]) (rest := [.int (f7 (a1 : Int32).toNatClampNeg)]) ⟨hx, hb, hml, hown, hts⟩ (tm_sign l dC dI H.size 0 33 61 nf u5_0 hu_5) (va_cwS 3 hts gv_h9_15 rfl rfl rfl (by decide +kernel) ⟨Nat.le_of_ble_eq_true rfl, Nat.le_of_ble_eq_true rfl⟩) ⟨fun a U g mk q => by obtain ⟨q0, q1, qP, qK, qD⟩ := q; exact ⟨q0, q1, qP, va_K.moved (u := U) (U := U.calling g mk a) (Vm.Alike.refl U.vm) qK, qD⟩, fun U hU hW => ⟨rfl, by rw [hU], by rw [hU]; exact hPc, va_K.moved hW.alike hKc, hDc.weaken (fun _ _ _ _ => trivial)⟩⟩ rfl rfl hl.1 rfl (lv_room (Nat.le_of_ble_eq_true rfl)) dX13_strength_102 ⟨Nat.le_of_ble_eq_true rfl, Nat.le_of_ble_eq_true rfl⟩) hS (fun q _ h => hFc q h) hFc ?_
                  clear hS
                  intro r_15 u t H1 locs ht hvm hw hB hz1 hk1 hS
                  obtain ⟨⟩ := u
                  obtain ⟨hP1, hK1, hD1⟩ := hB
                  rw [ht] at hP1
                  have hK1 := va_K.moved hvm.symm hK1
                  try dsimp only at hw
                  have hPD := va_join (wr := [(h0, .inr (13, z_1)), (qf4, .inl (cf4, 3008, .inl f4)), (qf7, .inl (cf7, 3002, .inl f7))]) (w1 := []) hP hD [] [0, 1, 2] rfl rfl (by decide) (by decide) hk1 hFc hP1 hD1
                  clear hP hD
                  obtain ⟨hP, hD⟩ := hPD
                  replace hK := (hK.sub (tys' := [(cf4, .int), (cf7, .int)]) [0, 1] rfl).app hK1
                  clear hPc hDc hKc hFc hP1 hK1 hD1 hz1 hk1 ht hvm
                  generalize H1 = H at hP hS ⊢
                  replace hP : va_P (dC, dI) vwCl [(h0, .inr (13, z_1)), (qf4, .inl (cf4, 3008, .inl f4)), (qf7, .inl (cf7, 3002, .inl f7))] H := hP
                  replace hD : va_D A [(h0, .inr (13, z_1)), (qf4, .inl (cf4, 3008, .inl f4)), (qf7, .inl (cf7, 3002, .inl f7))] := hD
                  replace hK : va_K (dC, dI) vwCl [(cf4, .int), (cf7, .int)] s := hK
                  obtain rfl := hw
                  refine lv_icmp_ne (tgt := 110) hx hb dX13_strength_105 (by decide) (fun c_16 => ?_) (fun c_16 => ?_)
                  · rw [if_neg c_16] at hsp
                    refine lv_iload_n hx hb dX13_strength_110 rfl (lv_at hl 0 rfl) ?_
                    refine lv_bipush (v := 60) hx hb dX13_strength_111 (by decide) ?_
                    refine lv_icmp_eq (tgt := 146) hx hb dX13_strength_113 (by decide) (fun c_17 => ?_) (fun c_17 => ?_)
                    · rw [if_pos c_17] at hsp
                      refine lv_bipush (v := 6) hx hb dX13_strength_146 (by decide) ?_
                      have hr0 := Option.some.inj hsp
                      clear hsp
                      subst hr0
                      have hP9 := hP.sub (ws' := [(h0, .inr (13, z_1)), (qf4, .inl (cf4, 3008, .inl f4)), (qf7, .inl (cf7, 3002, .inl f7))]) [0, 1, 2] rfl
                      have hD9 := hD.sub (ws' := [(h0, .inr (13, z_1)), (qf4, .inl (cf4, 3008, .inl f4)), (qf7, .inl (cf7, 3002, .inl f7))]) [0, 1, 2] (by decide) rfl
                      have hK9 := hK.sub (tys' := [(cf4, .int), (cf7, .int)]) [0, 1] rfl
                      exact W.iret hx hb hr (fun t ht hW => ⟨⟨(6), (z_1), rfl, ⟨rfl, hln_1, hrq_1⟩, by rw [ht]; exact hP9, va_K.moved hW.alike hK9, hD9⟩, hS.F ht⟩) hS.2.2 dX13_strength_148
                    · rw [if_neg c_17] at hsp
                      refine lv_iload_n hx hb dX13_strength_116 rfl (lv_at hl 0 rfl) ?_
                      refine lv_bipush (v := 62) hx hb dX13_strength_117 (by decide) ?_
                      refine lv_icmp_eq (tgt := 146) hx hb dX13_strength_119 (by decide) (fun c_18 => ?_) (fun c_18 => ?_)
                      · rw [if_pos c_18] at hsp
                        refine lv_bipush (v := 6) hx hb dX13_strength_146 (by decide) ?_
                        have hr0 := Option.some.inj hsp
                        clear hsp
                        subst hr0
                        have hP9 := hP.sub (ws' := [(h0, .inr (13, z_1)), (qf4, .inl (cf4, 3008, .inl f4)), (qf7, .inl (cf7, 3002, .inl f7))]) [0, 1, 2] rfl
                        have hD9 := hD.sub (ws' := [(h0, .inr (13, z_1)), (qf4, .inl (cf4, 3008, .inl f4)), (qf7, .inl (cf7, 3002, .inl f7))]) [0, 1, 2] (by decide) rfl
                        have hK9 := hK.sub (tys' := [(cf4, .int), (cf7, .int)]) [0, 1] rfl
                        exact W.iret hx hb hr (fun t ht hW => ⟨⟨(6), (z_1), rfl, ⟨rfl, hln_1, hrq_1⟩, by rw [ht]; exact hP9, va_K.moved hW.alike hK9, hD9⟩, hS.F ht⟩) hS.2.2 dX13_strength_148
                      · rw [if_neg c_18] at hsp
                        refine lv_iload_n hx hb dX13_strength_122 rfl (lv_at hl 0 rfl) ?_
                        refine lv_iconst (v := 0) hx hb dX13_strength_123 (by decide) ?_
                        refine lv_bipush (v := 60) hx hb dX13_strength_124 (by decide) ?_
                        refine lv_bipush (v := 61) hx hb dX13_strength_126 (by decide) ?_
                        obtain ⟨u6_0, hu_6, hsp⟩ := ox_bind hsp
                        try dsimp only at hsp
                        have hPc := hP.sub (ws' := []) [] rfl
                        have hDc := hD.sub (ws' := []) [] (by decide) rfl
                        have hKc := hK.sub (tys' := []) [] rfl
                        have hFc := va_free (wc := []) hD hS hA [] rfl
                        refine va_calli (va_runS (As := [.int 0, .int 60, .int 61]) (rest := [.int (f7 (a1 : Int32).toNatClampNeg)]) ⟨hx, hb, hml, hown, hts⟩ (tm_sign l dC dI H.size 0 60 61 nf u6_0 hu_6) (va_cwS 3 hts gv_h9_15 rfl rfl rfl (by decide +kernel) ⟨Nat.le_of_ble_eq_true rfl, Nat.le_of_ble_eq_true rfl⟩) ⟨fun a U g mk q => by obtain ⟨q0, q1, qP, qK, qD⟩ := q; exact ⟨q0, q1, qP, va_K.moved (u := U) (U := U.calling g mk a) (Vm.Alike.refl U.vm) qK, qD⟩, fun U hU hW => ⟨rfl, by rw [hU], by rw [hU]; exact hPc, va_K.moved hW.alike hKc, hDc.weaken (fun _ _ _ _ => trivial)⟩⟩ rfl rfl hl.1 rfl (lv_room (Nat.le_of_ble_eq_true rfl)) dX13_strength_128 ⟨Nat.le_of_ble_eq_true rfl, Nat.le_of_ble_eq_true rfl⟩) hS (fun q _ h => hFc q h) hFc ?_
                        clear hS
                        intro r_19 u t H1 locs ht hvm hw hB hz1 hk1 hS
                        obtain ⟨⟩ := u
                        obtain ⟨hP1, hK1, hD1⟩ := hB
                        rw [ht] at hP1
                        have hK1 := va_K.moved hvm.symm hK1
                        try dsimp only at hw
                        have hPD := va_join (wr := [(h0, .inr (13, z_1)), (qf4, .inl (cf4, 3008, .inl f4)), (qf7, .inl (cf7, 3002, .inl f7))]) (w1 := []) hP hD [] [0, 1, 2] rfl rfl (by decide) (by decide) hk1 hFc hP1 hD1
                        clear hP hD
                        obtain ⟨hP, hD⟩ := hPD
                        replace hK := (hK.sub (tys' := [(cf4, .int), (cf7, .int)]) [0, 1] rfl).app hK1
                        clear hPc hDc hKc hFc hP1 hK1 hD1 hz1 hk1 ht hvm
                        generalize H1 = H at hP hS ⊢
                        replace hP : va_P (dC, dI) vwCl [(h0, .inr (13, z_1)), (qf4, .inl (cf4, 3008, .inl f4)), (qf7, .inl (cf7, 3002, .inl f7))] H := hP
                        replace hD : va_D A [(h0, .inr (13, z_1)), (qf4, .inl (cf4, 3008, .inl f4)), (qf7, .inl (cf7, 3002, .inl f7))] := hD
                        replace hK : va_K (dC, dI) vwCl [(cf4, .int), (cf7, .int)] s := hK
                        obtain rfl := hw
                        refine lv_icmp_eq (tgt := 146) hx hb dX13_strength_131 (by decide) (fun c_20 => ?_) (fun c_20 => ?_)
                        · rw [if_pos c_20] at hsp
                          refine lv_bipush (v := 6) hx hb dX13_strength_146 (by decide) ?_
                          have hr0 := Option.some.inj hsp
                          clear hsp
                          subst hr0
                          have hP9 := hP.sub (ws' := [(h0, .inr (13, z_1)), (qf4, .inl (cf4, 3008, .inl f4)), (qf7, .inl (cf7, 3002, .inl f7))]) [0, 1, 2] rfl
                          have hD9 := hD.sub (ws' := [(h0, .inr (13, z_1)), (qf4, .inl (cf4, 3008, .inl f4)), (qf7, .inl (cf7, 3002, .inl f7))]) [0, 1, 2] (by decide) rfl
                          have hK9 := hK.sub (tys' := [(cf4, .int), (cf7, .int)]) [0, 1] rfl
                          exact W.iret hx hb hr (fun t ht hW => ⟨⟨(6), (z_1), rfl, ⟨rfl, hln_1, hrq_1⟩, by rw [ht]; exact hP9, va_K.moved hW.alike hK9, hD9⟩, hS.F ht⟩) hS.2.2 dX13_strength_148
                        · rw [if_neg c_20] at hsp
                          refine lv_iload_n hx hb dX13_strength_134 rfl (lv_at hl 0 rfl) ?_
                          refine lv_iconst (v := 0) hx hb dX13_strength_135 (by decide) ?_
                          refine lv_bipush (v := 62) hx hb dX13_strength_136 (by decide) ?_
                          refine lv_bipush (v := 61) hx hb dX13_strength_138 (by decide) ?_
                          obtain ⟨u7_0, hu_7, hsp⟩ := ox_bind hsp
                          try dsimp only at hsp
                          have hPc := hP.sub (ws' := []) [] rfl
                          have hDc := hD.sub (ws' := []) [] (by decide) rfl
                          have hKc := hK.sub (tys' := []) [] rfl
                          have hFc := va_free (wc := []) hD hS hA [] rfl
                          refine va_calli (va_runS (As := [.int 0, .int 62, .int 61]) (rest := [.int (f7 (a1 : Int32).toNatClampNeg)]) ⟨hx, hb, hml, hown, hts⟩ (tm_sign l dC dI H.size 0 62 61 nf u7_0 hu_7) (va_cwS 3 hts gv_h9_15 rfl rfl rfl (by decide +kernel) ⟨Nat.le_of_ble_eq_true rfl, Nat.le_of_ble_eq_true rfl⟩) ⟨fun a U g mk q => by obtain ⟨q0, q1, qP, qK, qD⟩ := q; exact ⟨q0, q1, qP, va_K.moved (u := U) (U := U.calling g mk a) (Vm.Alike.refl U.vm) qK, qD⟩, fun U hU hW => ⟨rfl, by rw [hU], by rw [hU]; exact hPc, va_K.moved hW.alike hKc, hDc.weaken (fun _ _ _ _ => trivial)⟩⟩ rfl rfl hl.1 rfl (lv_room (Nat.le_of_ble_eq_true rfl)) dX13_strength_140 ⟨Nat.le_of_ble_eq_true rfl, Nat.le_of_ble_eq_true rfl⟩) hS (fun q _ h => hFc q h) hFc ?_
                          clear hS
                          intro r_21 u t H1 locs ht hvm hw hB hz1 hk1 hS
                          obtain ⟨⟩ := u
                          obtain ⟨hP1, hK1, hD1⟩ := hB
                          rw [ht] at hP1
                          have hK1 := va_K.moved hvm.symm hK1
                          try dsimp only at hw
                          have hPD := va_join (wr := [(h0, .inr (13, z_1)), (qf4, .inl (cf4, 3008, .inl f4)), (qf7, .inl (cf7, 3002, .inl f7))]) (w1 := []) hP hD [] [0, 1, 2] rfl rfl (by decide) (by decide) hk1 hFc hP1 hD1
                          clear hP hD
                          obtain ⟨hP, hD⟩ := hPD
                          replace hK := (hK.sub (tys' := [(cf4, .int), (cf7, .int)]) [0, 1] rfl).app hK1
                          clear hPc hDc hKc hFc hP1 hK1 hD1 hz1 hk1 ht hvm
                          generalize H1 = H at hP hS ⊢
                          replace hP : va_P (dC, dI) vwCl [(h0, .inr (13, z_1)), (qf4, .inl (cf4, 3008, .inl f4)), (qf7, .inl (cf7, 3002, .inl f7))] H := hP
                          replace hD : va_D A [(h0, .inr (13, z_1)), (qf4, .inl (cf4, 3008, .inl f4)), (qf7, .inl (cf7, 3002, .inl f7))] := hD
                          replace hK : va_K (dC, dI) vwCl [(cf4, .int), (cf7, .int)] s := hK
                          obtain rfl := hw
                          refine lv_icmp_ne (tgt := 149) hx hb dX13_strength_143 (by decide) (fun c_22 => ?_) (fun c_22 => ?_)
                          · rw [if_neg c_22] at hsp
                            refine lv_iload_n hx hb dX13_strength_149 rfl (lv_at hl 0 rfl) ?_
                            refine lv_iconst (v := 0) hx hb dX13_strength_150 (by decide) ?_
                            refine lv_bipush (v := 60) hx hb dX13_strength_151 (by decide) ?_
                            refine lv_bipush (v := 60) hx hb dX13_strength_153 (by decide) ?_
                            obtain ⟨u8_0, hu_8, hsp⟩ := ox_bind hsp
                            try dsimp only at hsp
                            have hPc := hP.sub (ws' := []) [] rfl
                            have hDc := hD.sub (ws' := []) [] (by decide) rfl
                            have hKc := hK.sub (tys' := []) [] rfl
                            have hFc := va_free (wc := []) hD hS hA [] rfl
                            refine va_calli (va_runS (As := [.int 0, .int 60, .int 60]) (rest := [.int (f7 (a1 : Int32).toNatClampNeg)]) ⟨hx, hb, hml, hown, hts⟩ (tm_sign l dC dI H.size 0 60 60 nf u8_0 hu_8) (va_cwS 3 hts gv_h9_15 rfl rfl rfl (by decide +kernel) ⟨Nat.le_of_ble_eq_true rfl, Nat.le_of_ble_eq_true rfl⟩) ⟨fun a U g mk q => by obtain ⟨q0, q1, qP, qK, qD⟩ := q; exact ⟨q0, q1, qP, va_K.moved (u := U) (U := U.calling g mk a) (Vm.Alike.refl U.vm) qK, qD⟩, fun U hU hW => ⟨rfl, by rw [hU], by rw [hU]; exact hPc, va_K.moved hW.alike hKc, hDc.weaken (fun _ _ _ _ => trivial)⟩⟩ rfl rfl hl.1 rfl (lv_room (Nat.le_of_ble_eq_true rfl)) dX13_strength_155 ⟨Nat.le_of_ble_eq_true rfl, Nat.le_of_ble_eq_true rfl⟩) hS (fun q _ h => hFc q h) hFc ?_
                            clear hS
                            intro r_23 u t H1 locs ht hvm hw hB hz1 hk1 hS
                            obtain ⟨⟩ := u
                            obtain ⟨hP1, hK1, hD1⟩ := hB
                            rw [ht] at hP1
                            have hK1 := va_K.moved hvm.symm hK1
                            try dsimp only at hw
                            have hPD := va_join (wr := [(h0, .inr (13, z_1)), (qf4, .inl (cf4, 3008, .inl f4)), (qf7, .inl (cf7, 3002, .inl f7))]) (w1 := []) hP hD [] [0, 1, 2] rfl rfl (by decide) (by decide) hk1 hFc hP1 hD1
                            clear hP hD
                            obtain ⟨hP, hD⟩ := hPD
                            replace hK := (hK.sub (tys' := [(cf4, .int), (cf7, .int)]) [0, 1] rfl).app hK1
                            clear hPc hDc hKc hFc hP1 hK1 hD1 hz1 hk1 ht hvm
                            generalize H1 = H at hP hS ⊢
                            replace hP : va_P (dC, dI) vwCl [(h0, .inr (13, z_1)), (qf4, .inl (cf4, 3008, .inl f4)), (qf7, .inl (cf7, 3002, .inl f7))] H := hP
                            replace hD : va_D A [(h0, .inr (13, z_1)), (qf4, .inl (cf4, 3008, .inl f4)), (qf7, .inl (cf7, 3002, .inl f7))] := hD
                            replace hK : va_K (dC, dI) vwCl [(cf4, .int), (cf7, .int)] s := hK
                            obtain rfl := hw
                            refine lv_icmp_eq (tgt := 186) hx hb dX13_strength_158 (by decide) (fun c_24 => ?_) (fun c_24 => ?_)
                            · rw [if_pos c_24] at hsp
                              refine lv_bipush (v := 7) hx hb dX13_strength_186 (by decide) ?_
                              have hr0 := Option.some.inj hsp
                              clear hsp
                              subst hr0
                              have hP9 := hP.sub (ws' := [(h0, .inr (13, z_1)), (qf4, .inl (cf4, 3008, .inl f4)), (qf7, .inl (cf7, 3002, .inl f7))]) [0, 1, 2] rfl
                              have hD9 := hD.sub (ws' := [(h0, .inr (13, z_1)), (qf4, .inl (cf4, 3008, .inl f4)), (qf7, .inl (cf7, 3002, .inl f7))]) [0, 1, 2] (by decide) rfl
                              have hK9 := hK.sub (tys' := [(cf4, .int), (cf7, .int)]) [0, 1] rfl
                              exact W.iret hx hb hr (fun t ht hW => ⟨⟨(7), (z_1), rfl, ⟨rfl, hln_1, hrq_1⟩, by rw [ht]; exact hP9, va_K.moved hW.alike hK9, hD9⟩, hS.F ht⟩) hS.2.2 dX13_strength_188
                            · rw [if_neg c_24] at hsp
                              refine lv_iload_n hx hb dX13_strength_161 rfl (lv_at hl 0 rfl) ?_
                              refine lv_iconst (v := 0) hx hb dX13_strength_162 (by decide) ?_
                              refine lv_bipush (v := 62) hx hb dX13_strength_163 (by decide) ?_
                              refine lv_bipush (v := 62) hx hb dX13_strength_165 (by decide) ?_
                              obtain ⟨u9_0, hu_9, hsp⟩ := ox_bind hsp
                              try dsimp only at hsp
                              have hPc := hP.sub (ws' := []) [] rfl
                              have hDc := hD.sub (ws' := []) [] (by decide) rfl
                              have hKc := hK.sub (tys' := []) [] rfl
                              have hFc := va_free (wc := []) hD hS hA [] rfl
                              refine va_calli (va_runS (As := [.int 0, .int 62, .int 62]) (rest := [.int (f7 (a1 : Int32).toNatClampNeg)]) ⟨hx, hb, hml, hown, hts⟩ (tm_sign l dC dI H.size 0 62 62 nf u9_0 hu_9) (va_cwS 3 hts gv_h9_15 rfl rfl rfl (by decide +kernel) ⟨Nat.le_of_ble_eq_true rfl, Nat.le_of_ble_eq_true rfl⟩) ⟨fun a U g mk q => by obtain ⟨q0, q1, qP, qK, qD⟩ := q; exact ⟨q0, q1, qP, va_K.moved (u := U) (U := U.calling g mk a) (Vm.Alike.refl U.vm) qK, qD⟩, fun U hU hW => ⟨rfl, by rw [hU], by rw [hU]; exact hPc, va_K.moved hW.alike hKc, hDc.weaken (fun _ _ _ _ => trivial)⟩⟩ rfl rfl hl.1 rfl (lv_room (Nat.le_of_ble_eq_true rfl)) dX13_strength_167 ⟨Nat.le_of_ble_eq_true rfl, Nat.le_of_ble_eq_true rfl⟩) hS (fun q _ h => hFc q h) hFc ?_
                              clear hS
                              intro r_25 u t H1 locs ht hvm hw hB hz1 hk1 hS
                              obtain ⟨⟩ := u
                              obtain ⟨hP1, hK1, hD1⟩ := hB
                              rw [ht] at hP1
                              have hK1 := va_K.moved hvm.symm hK1
                              try dsimp only at hw
                              have hPD := va_join (wr := [(h0, .inr (13, z_1)), (qf4, .inl (cf4, 3008, .inl f4)), (qf7, .inl (cf7, 3002, .inl f7))]) (w1 := []) hP hD [] [0, 1, 2] rfl rfl (by decide) (by decide) hk1 hFc hP1 hD1
                              clear hP hD
                              obtain ⟨hP, hD⟩ := hPD
                              replace hK := (hK.sub (tys' := [(cf4, .int), (cf7, .int)]) [0, 1] rfl).app hK1
                              clear hPc hDc hKc hFc hP1 hK1 hD1 hz1 hk1 ht hvm
                              generalize H1 = H at hP hS ⊢
                              replace hP : va_P (dC, dI) vwCl [(h0, .inr (13, z_1)), (qf4, .inl (cf4, 3008, .inl f4)), (qf7, .inl (cf7, 3002, .inl f7))] H := hP
                              replace hD : va_D A [(h0, .inr (13, z_1)), (qf4, .inl (cf4, 3008, .inl f4)), (qf7, .inl (cf7, 3002, .inl f7))] := hD
                              replace hK : va_K (dC, dI) vwCl [(cf4, .int), (cf7, .int)] s := hK
                              obtain rfl := hw
                              refine lv_icmp_eq (tgt := 186) hx hb dX13_strength_170 (by decide) (fun c_26 => ?_) (fun c_26 => ?_)
                              · rw [if_pos c_26] at hsp
                                refine lv_bipush (v := 7) hx hb dX13_strength_186 (by decide) ?_
                                have hr0 := Option.some.inj hsp
                                clear hsp
                                subst hr0
                                have hP9 := hP.sub (ws' := [(h0, .inr (13, z_1)), (qf4, .inl (cf4, 3008, .inl f4)), (qf7, .inl (cf7, 3002, .inl f7))]) [0, 1, 2] rfl
                                have hD9 := hD.sub (ws' := [(h0, .inr (13, z_1)), (qf4, .inl (cf4, 3008, .inl f4)), (qf7, .inl (cf7, 3002, .inl f7))]) [0, 1, 2] (by decide) rfl
                                have hK9 := hK.sub (tys' := [(cf4, .int), (cf7, .int)]) [0, 1] rfl
                                exact W.iret hx hb hr (fun t ht hW => ⟨⟨(7), (z_1), rfl, ⟨rfl, hln_1, hrq_1⟩, by rw [ht]; exact hP9, va_K.moved hW.alike hK9, hD9⟩, hS.F ht⟩) hS.2.2 dX13_strength_188
                              · rw [if_neg c_26] at hsp
                                refine lv_iload_n hx hb dX13_strength_173 rfl (lv_at hl 0 rfl) ?_
                                refine lv_bipush (v := 62) hx hb dX13_strength_174 (by decide) ?_
                                refine lv_bipush (v := 62) hx hb dX13_strength_176 (by decide) ?_
                                refine lv_bipush (v := 62) hx hb dX13_strength_178 (by decide) ?_
                                obtain ⟨u10_0, hu_10, hsp⟩ := ox_bind hsp
                                try dsimp only at hsp
                                have hPc := hP.sub (ws' := []) [] rfl
                                have hDc := hD.sub (ws' := []) [] (by decide) rfl
                                have hKc := hK.sub (tys' := []) [] rfl
                                have hFc := va_free (wc := []) hD hS hA [] rfl
                                refine va_calli (va_runS (As := [.int 62, .int 62, .int 62]) (rest := [.int (f7 (a1 : Int32).toNatClampNeg)]) ⟨hx, hb, hml, hown, hts⟩ (tm_sign l dC dI H.size 62 62 62 nf u10_0 hu_10) (va_cwS 3 hts gv_h9_15 rfl rfl rfl (by decide +kernel) ⟨Nat.le_of_ble_eq_true rfl, Nat.le_of_ble_eq_true rfl⟩) ⟨fun a U g mk q => by obtain ⟨q0, q1, qP, qK, qD⟩ := q; exact ⟨q0, q1, qP, va_K.moved (u := U) (U := U.calling g mk a) (Vm.Alike.refl U.vm) qK, qD⟩, fun U hU hW => ⟨rfl, by rw [hU], by rw [hU]; exact hPc, va_K.moved hW.alike hKc, hDc.weaken (fun _ _ _ _ => trivial)⟩⟩ rfl rfl hl.1 rfl (lv_room (Nat.le_of_ble_eq_true rfl)) dX13_strength_180 ⟨Nat.le_of_ble_eq_true rfl, Nat.le_of_ble_eq_true rfl⟩) hS (fun q _ h => hFc q h) hFc ?_
                                clear hS
                                intro r_27 u t H1 locs ht hvm hw hB hz1 hk1 hS
                                obtain ⟨⟩ := u
                                obtain ⟨hP1, hK1, hD1⟩ := hB
                                rw [ht] at hP1
                                have hK1 := va_K.moved hvm.symm hK1
                                try dsimp only at hw
                                have hPD := va_join (wr := [(h0, .inr (13, z_1)), (qf4, .inl (cf4, 3008, .inl f4)), (qf7, .inl (cf7, 3002, .inl f7))]) (w1 := []) hP hD [] [0, 1, 2] rfl rfl (by decide) (by decide) hk1 hFc hP1 hD1
                                clear hP hD
                                obtain ⟨hP, hD⟩ := hPD
                                replace hK := (hK.sub (tys' := [(cf4, .int), (cf7, .int)]) [0, 1] rfl).app hK1
                                clear hPc hDc hKc hFc hP1 hK1 hD1 hz1 hk1 ht hvm
                                generalize H1 = H at hP hS ⊢
                                replace hP : va_P (dC, dI) vwCl [(h0, .inr (13, z_1)), (qf4, .inl (cf4, 3008, .inl f4)), (qf7, .inl (cf7, 3002, .inl f7))] H := hP
                                replace hD : va_D A [(h0, .inr (13, z_1)), (qf4, .inl (cf4, 3008, .inl f4)), (qf7, .inl (cf7, 3002, .inl f7))] := hD
                                replace hK : va_K (dC, dI) vwCl [(cf4, .int), (cf7, .int)] s := hK
                                obtain rfl := hw
                                refine lv_icmp_ne (tgt := 189) hx hb dX13_strength_183 (by decide) (fun c_28 => ?_) (fun c_28 => ?_)
                                · rw [if_neg c_28] at hsp
                                  refine lv_iload_n hx hb dX13_strength_189 rfl (lv_at hl 0 rfl) ?_
                                  refine lv_bipush (v := 43) hx hb dX13_strength_190 (by decide) ?_
                                  refine lv_icmp_eq (tgt := 201) hx hb dX13_strength_192 (by decide) (fun c_29 => ?_) (fun c_29 => ?_)
                                  · rw [if_pos c_29] at hsp
                                    refine lv_bipush (v := 8) hx hb dX13_strength_201 (by decide) ?_
                                    have hr0 := Option.some.inj hsp
                                    clear hsp
                                    subst hr0
                                    have hP9 := hP.sub (ws' := [(h0, .inr (13, z_1)), (qf4, .inl (cf4, 3008, .inl f4)), (qf7, .inl (cf7, 3002, .inl f7))]) [0, 1, 2] rfl
                                    have hD9 := hD.sub (ws' := [(h0, .inr (13, z_1)), (qf4, .inl (cf4, 3008, .inl f4)), (qf7, .inl (cf7, 3002, .inl f7))]) [0, 1, 2] (by decide) rfl
                                    have hK9 := hK.sub (tys' := [(cf4, .int), (cf7, .int)]) [0, 1] rfl
                                    exact W.iret hx hb hr (fun t ht hW => ⟨⟨(8), (z_1), rfl, ⟨rfl, hln_1, hrq_1⟩, by rw [ht]; exact hP9, va_K.moved hW.alike hK9, hD9⟩, hS.F ht⟩) hS.2.2 dX13_strength_203
                                  · rw [if_neg c_29] at hsp
                                    refine lv_iload_n hx hb dX13_strength_195 rfl (lv_at hl 0 rfl) ?_
                                    refine lv_bipush (v := 45) hx hb dX13_strength_196 (by decide) ?_
                                    refine lv_icmp_ne (tgt := 204) hx hb dX13_strength_198 (by decide) (fun c_30 => ?_) (fun c_30 => ?_)
                                    · rw [if_neg c_30] at hsp
                                      refine lv_iload_n hx hb dX13_strength_204 rfl (lv_at hl 0 rfl) ?_
                                      refine lv_bipush (v := 42) hx hb dX13_strength_205 (by decide) ?_
                                      refine lv_icmp_eq (tgt := 222) hx hb dX13_strength_207 (by decide) (fun c_31 => ?_) (fun c_31 => ?_)
                                      · rw [if_pos c_31] at hsp
                                        refine lv_bipush (v := 9) hx hb dX13_strength_222 (by decide) ?_
                                        refine lv_goto (tgt := 228) hx hb dX13_strength_224 (by decide) ?_
                                        have hr0 := Option.some.inj hsp
                                        clear hsp
                                        subst hr0
                                        have hP9 := hP.sub (ws' := [(h0, .inr (13, z_1)), (qf4, .inl (cf4, 3008, .inl f4)), (qf7, .inl (cf7, 3002, .inl f7))]) [0, 1, 2] rfl
                                        have hD9 := hD.sub (ws' := [(h0, .inr (13, z_1)), (qf4, .inl (cf4, 3008, .inl f4)), (qf7, .inl (cf7, 3002, .inl f7))]) [0, 1, 2] (by decide) rfl
                                        have hK9 := hK.sub (tys' := [(cf4, .int), (cf7, .int)]) [0, 1] rfl
                                        exact W.iret hx hb hr (fun t ht hW => ⟨⟨(9), (z_1), rfl, ⟨rfl, hln_1, hrq_1⟩, by rw [ht]; exact hP9, va_K.moved hW.alike hK9, hD9⟩, hS.F ht⟩) hS.2.2 dX13_strength_228
                                      · rw [if_neg c_31] at hsp
                                        refine lv_iload_n hx hb dX13_strength_210 rfl (lv_at hl 0 rfl) ?_
                                        refine lv_bipush (v := 47) hx hb dX13_strength_211 (by decide) ?_
                                        refine lv_icmp_eq (tgt := 222) hx hb dX13_strength_213 (by decide) (fun c_32 => ?_) (fun c_32 => ?_)
                                        · rw [if_pos c_32] at hsp
                                          refine lv_bipush (v := 9) hx hb dX13_strength_222 (by decide) ?_
                                          refine lv_goto (tgt := 228) hx hb dX13_strength_224 (by decide) ?_
                                          have hr0 := Option.some.inj hsp
                                          clear hsp
                                          subst hr0
                                          have hP9 := hP.sub (ws' := [(h0, .inr (13, z_1)), (qf4, .inl (cf4, 3008, .inl f4)), (qf7, .inl (cf7, 3002, .inl f7))]) [0, 1, 2] rfl
                                          have hD9 := hD.sub (ws' := [(h0, .inr (13, z_1)), (qf4, .inl (cf4, 3008, .inl f4)), (qf7, .inl (cf7, 3002, .inl f7))]) [0, 1, 2] (by decide) rfl
                                          have hK9 := hK.sub (tys' := [(cf4, .int), (cf7, .int)]) [0, 1] rfl
                                          exact W.iret hx hb hr (fun t ht hW => ⟨⟨(9), (z_1), rfl, ⟨rfl, hln_1, hrq_1⟩, by rw [ht]; exact hP9, va_K.moved hW.alike hK9, hD9⟩, hS.F ht⟩) hS.2.2 dX13_strength_228
                                        · rw [if_neg c_32] at hsp
                                          refine lv_iload_n hx hb dX13_strength_216 rfl (lv_at hl 0 rfl) ?_
                                          refine lv_bipush (v := 37) hx hb dX13_strength_217 (by decide) ?_
                                          refine lv_icmp_ne (tgt := 227) hx hb dX13_strength_219 (by decide) (fun c_33 => ?_) (fun c_33 => ?_)
                                          · rw [if_neg c_33] at hsp
                                            refine lv_iconst (v := (-1)) hx hb dX13_strength_227 (by decide) ?_
                                            have hr0 := Option.some.inj hsp
                                            clear hsp
                                            subst hr0
                                            have hP9 := hP.sub (ws' := [(h0, .inr (13, z_1)), (qf4, .inl (cf4, 3008, .inl f4)), (qf7, .inl (cf7, 3002, .inl f7))]) [0, 1, 2] rfl
                                            have hD9 := hD.sub (ws' := [(h0, .inr (13, z_1)), (qf4, .inl (cf4, 3008, .inl f4)), (qf7, .inl (cf7, 3002, .inl f7))]) [0, 1, 2] (by decide) rfl
                                            have hK9 := hK.sub (tys' := [(cf4, .int), (cf7, .int)]) [0, 1] rfl
                                            exact W.iret hx hb hr (fun t ht hW => ⟨⟨((-1)), (z_1), rfl, ⟨rfl, hln_1, hrq_1⟩, by rw [ht]; exact hP9, va_K.moved hW.alike hK9, hD9⟩, hS.F ht⟩) hS.2.2 dX13_strength_228
                                          · rw [if_pos c_33] at hsp
                                            refine lv_bipush (v := 9) hx hb dX13_strength_222 (by decide) ?_
                                            refine lv_goto (tgt := 228) hx hb dX13_strength_224 (by decide) ?_
                                            have hr0 := Option.some.inj hsp
                                            clear hsp
                                            subst hr0
                                            have hP9 := hP.sub (ws' := [(h0, .inr (13, z_1)), (qf4, .inl (cf4, 3008, .inl f4)), (qf7, .inl (cf7, 3002, .inl f7))]) [0, 1, 2] rfl
                                            have hD9 := hD.sub (ws' := [(h0, .inr (13, z_1)), (qf4, .inl (cf4, 3008, .inl f4)), (qf7, .inl (cf7, 3002, .inl f7))]) [0, 1, 2] (by decide) rfl
                                            have hK9 := hK.sub (tys' := [(cf4, .int), (cf7, .int)]) [0, 1] rfl
                                            exact W.iret hx hb hr (fun t ht hW => ⟨⟨(9), (z_1), rfl, ⟨rfl, hln_1, hrq_1⟩, by rw [ht]; exact hP9, va_K.moved hW.alike hK9, hD9⟩, hS.F ht⟩) hS.2.2 dX13_strength_228
                                    · rw [if_pos c_30] at hsp
                                      refine lv_bipush (v := 8) hx hb dX13_strength_201 (by decide) ?_
                                      have hr0 := Option.some.inj hsp
                                      clear hsp
                                      subst hr0
                                      have hP9 := hP.sub (ws' := [(h0, .inr (13, z_1)), (qf4, .inl (cf4, 3008, .inl f4)), (qf7, .inl (cf7, 3002, .inl f7))]) [0, 1, 2] rfl
                                      have hD9 := hD.sub (ws' := [(h0, .inr (13, z_1)), (qf4, .inl (cf4, 3008, .inl f4)), (qf7, .inl (cf7, 3002, .inl f7))]) [0, 1, 2] (by decide) rfl
                                      have hK9 := hK.sub (tys' := [(cf4, .int), (cf7, .int)]) [0, 1] rfl
                                      exact W.iret hx hb hr (fun t ht hW => ⟨⟨(8), (z_1), rfl, ⟨rfl, hln_1, hrq_1⟩, by rw [ht]; exact hP9, va_K.moved hW.alike hK9, hD9⟩, hS.F ht⟩) hS.2.2 dX13_strength_203
                                · rw [if_pos c_28] at hsp
                                  refine lv_bipush (v := 7) hx hb dX13_strength_186 (by decide) ?_
                                  have hr0 := Option.some.inj hsp
                                  clear hsp
                                  subst hr0
                                  have hP9 := hP.sub (ws' := [(h0, .inr (13, z_1)), (qf4, .inl (cf4, 3008, .inl f4)), (qf7, .inl (cf7, 3002, .inl f7))]) [0, 1, 2] rfl
                                  have hD9 := hD.sub (ws' := [(h0, .inr (13, z_1)), (qf4, .inl (cf4, 3008, .inl f4)), (qf7, .inl (cf7, 3002, .inl f7))]) [0, 1, 2] (by decide) rfl
                                  have hK9 := hK.sub (tys' := [(cf4, .int), (cf7, .int)]) [0, 1] rfl
                                  exact W.iret hx hb hr (fun t ht hW => ⟨⟨(7), (z_1), rfl, ⟨rfl, hln_1, hrq_1⟩, by rw [ht]; exact hP9, va_K.moved hW.alike hK9, hD9⟩, hS.F ht⟩) hS.2.2 dX13_strength_188
                          · rw [if_pos c_22] at hsp
                            refine lv_bipush (v := 6) hx hb dX13_strength_146 (by decide) ?_
                            have hr0 := Option.some.inj hsp
                            clear hsp
                            subst hr0
                            have hP9 := hP.sub (ws' := [(h0, .inr (13, z_1)), (qf4, .inl (cf4, 3008, .inl f4)), (qf7, .inl (cf7, 3002, .inl f7))]) [0, 1, 2] rfl
                            have hD9 := hD.sub (ws' := [(h0, .inr (13, z_1)), (qf4, .inl (cf4, 3008, .inl f4)), (qf7, .inl (cf7, 3002, .inl f7))]) [0, 1, 2] (by decide) rfl
                            have hK9 := hK.sub (tys' := [(cf4, .int), (cf7, .int)]) [0, 1] rfl
                            exact W.iret hx hb hr (fun t ht hW => ⟨⟨(6), (z_1), rfl, ⟨rfl, hln_1, hrq_1⟩, by rw [ht]; exact hP9, va_K.moved hW.alike hK9, hD9⟩, hS.F ht⟩) hS.2.2 dX13_strength_148
                  · rw [if_pos c_16] at hsp
                    refine lv_iconst (v := 5) hx hb dX13_strength_108 (by decide) ?_
                    have hr0 := Option.some.inj hsp
                    clear hsp
                    subst hr0
                    have hP9 := hP.sub (ws' := [(h0, .inr (13, z_1)), (qf4, .inl (cf4, 3008, .inl f4)), (qf7, .inl (cf7, 3002, .inl f7))]) [0, 1, 2] rfl
                    have hD9 := hD.sub (ws' := [(h0, .inr (13, z_1)), (qf4, .inl (cf4, 3008, .inl f4)), (qf7, .inl (cf7, 3002, .inl f7))]) [0, 1, 2] (by decide) rfl
                    have hK9 := hK.sub (tys' := [(cf4, .int), (cf7, .int)]) [0, 1] rfl
                    exact W.iret hx hb hr (fun t ht hW => ⟨⟨(5), (z_1), rfl, ⟨rfl, hln_1, hrq_1⟩, by rw [ht]; exact hP9, va_K.moved hW.alike hK9, hD9⟩, hS.F ht⟩) hS.2.2 dX13_strength_109
              · rw [if_pos c_12] at hsp
                refine lv_iconst (v := 4) hx hb dX13_strength_82 (by decide) ?_
                have hr0 := Option.some.inj hsp
                clear hsp
                subst hr0
                have hP9 := hP.sub (ws' := [(h0, .inr (13, z_1)), (qf4, .inl (cf4, 3008, .inl f4)), (qf7, .inl (cf7, 3002, .inl f7))]) [0, 1, 2] rfl
                have hD9 := hD.sub (ws' := [(h0, .inr (13, z_1)), (qf4, .inl (cf4, 3008, .inl f4)), (qf7, .inl (cf7, 3002, .inl f7))]) [0, 1, 2] (by decide) rfl
                have hK9 := hK.sub (tys' := [(cf4, .int), (cf7, .int)]) [0, 1] rfl
                exact W.iret hx hb hr (fun t ht hW => ⟨⟨(4), (z_1), rfl, ⟨rfl, hln_1, hrq_1⟩, by rw [ht]; exact hP9, va_K.moved hW.alike hK9, hD9⟩, hS.F ht⟩) hS.2.2 dX13_strength_83
            · rw [if_pos c_11] at hsp
              refine lv_iconst (v := 3) hx hb dX13_strength_74 (by decide) ?_
              have hr0 := Option.some.inj hsp
              clear hsp
              subst hr0
              have hP9 := hP.sub (ws' := [(h0, .inr (13, z_1)), (qf4, .inl (cf4, 3008, .inl f4)), (qf7, .inl (cf7, 3002, .inl f7))]) [0, 1, 2] rfl
              have hD9 := hD.sub (ws' := [(h0, .inr (13, z_1)), (qf4, .inl (cf4, 3008, .inl f4)), (qf7, .inl (cf7, 3002, .inl f7))]) [0, 1, 2] (by decide) rfl
              have hK9 := hK.sub (tys' := [(cf4, .int), (cf7, .int)]) [0, 1] rfl
              exact W.iret hx hb hr (fun t ht hW => ⟨⟨(3), (z_1), rfl, ⟨rfl, hln_1, hrq_1⟩, by rw [ht]; exact hP9, va_K.moved hW.alike hK9, hD9⟩, hS.F ht⟩) hS.2.2 dX13_strength_75
          · rw [if_pos c_10] at hsp
            refine lv_iconst (v := 2) hx hb dX13_strength_66 (by decide) ?_
            have hr0 := Option.some.inj hsp
            clear hsp
            subst hr0
            have hP9 := hP.sub (ws' := [(h0, .inr (13, z_1)), (qf4, .inl (cf4, 3008, .inl f4)), (qf7, .inl (cf7, 3002, .inl f7))]) [0, 1, 2] rfl
            have hD9 := hD.sub (ws' := [(h0, .inr (13, z_1)), (qf4, .inl (cf4, 3008, .inl f4)), (qf7, .inl (cf7, 3002, .inl f7))]) [0, 1, 2] (by decide) rfl
            have hK9 := hK.sub (tys' := [(cf4, .int), (cf7, .int)]) [0, 1] rfl
            exact W.iret hx hb hr (fun t ht hW => ⟨⟨(2), (z_1), rfl, ⟨rfl, hln_1, hrq_1⟩, by rw [ht]; exact hP9, va_K.moved hW.alike hK9, hD9⟩, hS.F ht⟩) hS.2.2 dX13_strength_67
        · rw [if_pos c_9] at hsp
          refine lv_iconst (v := 1) hx hb dX13_strength_58 (by decide) ?_
          have hr0 := Option.some.inj hsp
          clear hsp
          subst hr0
          have hP9 := hP.sub (ws' := [(h0, .inr (13, z_1)), (qf4, .inl (cf4, 3008, .inl f4)), (qf7, .inl (cf7, 3002, .inl f7))]) [0, 1, 2] rfl
          have hD9 := hD.sub (ws' := [(h0, .inr (13, z_1)), (qf4, .inl (cf4, 3008, .inl f4)), (qf7, .inl (cf7, 3002, .inl f7))]) [0, 1, 2] (by decide) rfl
          have hK9 := hK.sub (tys' := [(cf4, .int), (cf7, .int)]) [0, 1] rfl
          exact W.iret hx hb hr (fun t ht hW => ⟨⟨(1), (z_1), rfl, ⟨rfl, hln_1, hrq_1⟩, by rw [ht]; exact hP9, va_K.moved hW.alike hK9, hD9⟩, hS.F ht⟩) hS.2.2 dX13_strength_59
      · rw [if_pos c_7] at hsp
        refine lv_iconst (v := 0) hx hb dX13_strength_44 (by decide) ?_
        have hr0 := Option.some.inj hsp
        clear hsp
        subst hr0
        have hP9 := hP.sub (ws' := [(h0, .inr (13, z_1)), (qf4, .inl (cf4, 3008, .inl f4)), (qf7, .inl (cf7, 3002, .inl f7))]) [0, 1, 2] rfl
        have hD9 := hD.sub (ws' := [(h0, .inr (13, z_1)), (qf4, .inl (cf4, 3008, .inl f4)), (qf7, .inl (cf7, 3002, .inl f7))]) [0, 1, 2] (by decide) rfl
        have hK9 := hK.sub (tys' := [(cf4, .int), (cf7, .int)]) [0, 1] rfl
        exact W.iret hx hb hr (fun t ht hW => ⟨⟨(0), (z_1), rfl, ⟨rfl, hln_1, hrq_1⟩, by rw [ht]; exact hP9, va_K.moved hW.alike hK9, hD9⟩, hS.F ht⟩) hS.2.2 dX13_strength_45
    · rw [if_neg c_4] at hsp
      refine lv_iconst (v := (-1)) hx hb dX13_strength_23 (by decide) ?_
      have hr0 := Option.some.inj hsp
      clear hsp
      subst hr0
      have hP9 := hP.sub (ws' := [(h0, .inr (13, z_1)), (qf4, .inl (cf4, 3008, .inl f4)), (qf7, .inl (cf7, 3002, .inl f7))]) [0, 1, 2] rfl
      have hD9 := hD.sub (ws' := [(h0, .inr (13, z_1)), (qf4, .inl (cf4, 3008, .inl f4)), (qf7, .inl (cf7, 3002, .inl f7))]) [0, 1, 2] (by decide) rfl
      have hK9 := hK.sub (tys' := [(cf4, .int), (cf7, .int)]) [0, 1] rfl
      exact W.iret hx hb hr (fun t ht hW => ⟨⟨((-1)), (z_1), rfl, ⟨rfl, hln_1, hrq_1⟩, by rw [ht]; exact hP9, va_K.moved hW.alike hK9, hD9⟩, hS.F ht⟩) hS.2.2 dX13_strength_24
  · rw [if_neg (by decide)] at hsp
    refine lv_if_eq (tgt := 13) hx hb dX13_strength_7 (by decide) (fun c_34 => (show False by revert c_34; decide).elim) (fun c_34 => ?_)
    refine lv_bipush (v := 6) hx hb dX13_strength_10 (by decide) ?_
    have hr0 := Option.some.inj hsp
    clear hsp
    subst hr0
    have hP9 := hP.sub (ws' := [(h0, .inr (13, z_1)), (qf4, .inl (cf4, 3008, .inl f4)), (qf7, .inl (cf7, 3002, .inl f7))]) [0, 1, 2] rfl
    have hD9 := hD.sub (ws' := [(h0, .inr (13, z_1)), (qf4, .inl (cf4, 3008, .inl f4)), (qf7, .inl (cf7, 3002, .inl f7))]) [0, 1, 2] (by decide) rfl
    have hK9 := hK.sub (tys' := [(cf4, .int), (cf7, .int)]) [0, 1] rfl
    exact W.iret hx hb hr (fun t ht hW => ⟨⟨(6), (z_1), rfl, ⟨rfl, hln_1, hrq_1⟩, by rw [ht]; exact hP9, va_K.moved hW.alike hK9, hD9⟩, hS.F ht⟩) hS.2.2 dX13_strength_12
def sp_vm_isCast (nf : Nat) (v23 : Int32) (f4 : Nat → Int32) (f7 : Nat → Int32) : Option (Int32) := ((sp_tm_isSign nf v23 40 f4 f7).bind (fun p1 => (if p1 = 0 then (some 0) else (if (v23 + 1) < 0 then none else if 3008 ≤ ((v23 + 1) : Int32).toNatClampNeg then none else (if (f4 ((v23 + 1) : Int32).toNatClampNeg) = 1 then ((sp_tm_isSign nf (v23 + 2) 41 f4 f7).bind (fun p2 => (if p2 = 0 then (some 0) else (if (v23 + 3) < 0 then none else if 3008 ≤ ((v23 + 3) : Int32).toNatClampNeg then none else (if (f4 ((v23 + 3) : Int32).toNatClampNeg) = 1 then (some 1) else (if (v23 + 3) < 0 then none else if 3008 ≤ ((v23 + 3) : Int32).toNatClampNeg then none else (if (f4 ((v23 + 3) : Int32).toNatClampNeg) = 2 then (some 1) else ((sp_tm_isSign nf (v23 + 3) 40 f4 f7).bind (fun p3 => (if p3 = 0 then ((sp_tm_isSign nf (v23 + 3) 33 f4 f7).bind (fun p4 => (if p4 = 0 then ((sp_tm_isSign nf (v23 + 3) 126 f4 f7).bind (fun p5 => (if p5 = 0 then ((sp_tm_isWord nf (v23 + 3) 16 f4 f7).bind (fun p6 => (if p6 = 0 then ((sp_tm_isWord nf (v23 + 3) 11 f4 f7).bind (fun p7 => (if p7 = 0 then ((sp_tm_isWord nf (v23 + 3) 12 f4 f7).bind (fun p8 => (if p8 = 0 then ((sp_tm_isWord nf (v23 + 3) 18 f4 f7).bind (fun p9 => (if p9 = 0 then ((sp_tm_isWord nf (v23 + 3) 7 f4 f7).bind (fun p10 => (if p10 = 0 then (some 0) else (some 1)))) else (some 1)))) else (some 1)))) else (some 1)))) else (some 1)))) else (some 1)))) else (some 1)))) else (some 1))))))))))) else (some 0))))))
set_option maxHeartbeats 4000000 in
set_option maxRecDepth 100000 in
/-- ClassMillModel.isCast -/
theorem vm_isCast (l : Launch) (dC : Nat → ClassId) (dI : Nat → Nat → Nat) (sz : Nat) (h0 : Nat) (zs : (List Value)) (qf4 : Nat) (qf7 : Nat) (v23 : Int32) (cf4 : ClassId) (f4 : (Nat → Int32)) (cf7 : ClassId) (f7 : (Nat → Int32)) (nf : Nat) (r0 : Int32) (hlen : zs.length = 155) (hf4 : zs[4]? = some (.ref qf4)) (hf7 : zs[7]? = some (.ref qf7)) (hf23 : zs[23]? = some (.int v23)) (hsp : sp_vm_isCast nf v23 f4 f7 = some r0) : Met l yX13_isCast (.code yX13_isCast cX13_isCast 2 (some .boolean) :: VS_h9) ({ frames := 1, cells := 0, slots := 0, locals := 22 }) (va_Pc [.ref h0] (fun U => U.heap.size = sz ∧ va_P (dC, dI) vwCl [(h0, .inr (13, zs)), (qf4, .inl (cf4, 3008, .inl f4)), (qf7, .inl (cf7, 3002, .inl f7))] U.heap ∧ va_K (dC, dI) vwCl [(cf4, .int), (cf7, .int)] U ∧ va_D (fun _ => True) [(h0, .inr (13, zs)), (qf4, .inl (cf4, 3008, .inl f4)), (qf7, .inl (cf7, 3002, .inl f7))])) (va_Qi (fun (r : Int32) (u : (List Value)) => match u with | (zo1) => (r0 = r ∧ (r0 = 0 ∨ r0 = 1)) ∧ zo1.length = 155 ∧ (∀ j : Nat, zo1[j]? = zs[j]?)) (fun (u : (List Value)) (t : State) => match u with | (zo1) => va_P (dC, dI) vwCl [(h0, .inr (13, zo1)), (qf4, .inl (cf4, 3008, .inl f4)), (qf7, .inl (cf7, 3002, .inl f7))] t.heap ∧ va_K (dC, dI) vwCl [(cf4, .int), (cf7, .int)] t ∧ va_D (va_A [(h0, .inr (13, zs)), (qf4, .inl (cf4, 3008, .inl f4)), (qf7, .inl (cf7, 3002, .inl f7))] sz) [(h0, .inr (13, zo1)), (qf4, .inl (cf4, 3008, .inl f4)), (qf7, .inl (cf7, 3002, .inl f7))]) (va_A [(h0, .inr (13, zs)), (qf4, .inl (cf4, 3008, .inl f4)), (qf7, .inl (cf7, 3002, .inl f7))] sz)) 0 0 (va_A [(h0, .inr (13, zs)), (qf4, .inl (cf4, 3008, .inl f4)), (qf7, .inl (cf7, 3002, .inl f7))] sz) := by
  refine Met.ofW (cc := cX13_isCast) (maxL := 2) (ret := (some .boolean)) (by decide) rfl ?_
  intro p e s m args below meth c s₁ B hml hv
  obtain ⟨rfl, hsz, hP, hK, hD0⟩ := hv
  have hx := B.exec
  have hb := B.bytes
  have hr := B.returns
  have hts := atoms_spec (ws := (.code yX13_isCast cX13_isCast 2 (some .boolean) :: VS_h9)) B.pre
  replace hts := fun w (h : w ∈ VS_h9) => hts w (List.mem_cons_of_mem _ h)
  have hown : s.vm.findClass RX13 = some m.cls := findClass_of_methodNamed B.named
  have hlocks := B.notSynchronized
  subst hsz
  have hD := hD0.self (sz := s.heap.size)
  generalize hAe : va_A [(h0, .inr (13, zs)), (qf4, .inl (cf4, 3008, .inl f4)), (qf7, .inl (cf7, 3002, .inl f7))] s.heap.size = A at hD  ⊢
  have hA : ∀ q : Nat, s.heap.size ≤ q → A q := fun q h => by rw [← hAe]; exact Or.inr h
  have hP : va_P (dC, dI) vwCl [(h0, .inr (13, zs)), (qf4, .inl (cf4, 3008, .inl f4)), (qf7, .inl (cf7, 3002, .inl f7))] s.heap := hP
  have hl := lv_entry ([.ref h0]) (n := 2) (Nat.le_of_ble_eq_true rfl)
  rw [lg_entry_eq]
  generalize (lg_sl ([.ref h0]) ++ List.replicate (2 - (lg_sl ([.ref h0])).length) Slot.unset).toArray = ls at hl ⊢
  have hl : lv_has ls 2 [(0, .ref h0)] := hl
  obtain ⟨H, hH⟩ : ∃ H : Heap, s.heap = H := ⟨_, rfl⟩
  rw [hH] at hP ⊢
  have hS : va_S A s.heap H [] := by rw [← hH]; exact va_S.rf
  obtain ⟨locs, hlo⟩ : ∃ locs : List Loc, locs = [] := ⟨_, rfl⟩
  rw [← hlo] at hS ⊢
  have hrs0 : ∀ j : Nat, zs[j]? = zs[j]? := fun _  => rfl
  unfold sp_vm_isCast at hsp
  refine lv_aload_n hx hb dX13_isCast_0 rfl (lv_at hl 0 rfl) ?_
  refine lv_aload_n hx hb dX13_isCast_1 rfl (lv_at hl 0 rfl) ?_
  refine va_get (D := (dC, dI)) (ci := 13) (v := .int v23) (C := RX13) (T := TX13) (N := 155) hx hb hts uV_h9_X13 hown hK hP 0 rfl rfl 23 (by decide) (hts (.fieldLink RX13 376 "ClassMillModel" "cursor" "I") mw_h9_67) (fun _ h9 => h9) hf23 dX13_isCast_2 ?_
  refine lv_bipush (v := 40) hx hb dX13_isCast_5 (by decide) ?_
  obtain ⟨u1_0, hu_1, hsp⟩ := ox_bind hsp
  try dsimp only at hsp
  have hPc := hP.sub (ws' := [(h0, .inr (13, zs)), (qf4, .inl (cf4, 3008, .inl f4)), (qf7, .inl (cf7, 3002, .inl f7))]) [0, 1, 2] rfl
  have hDc := hD.sub (ws' := [(h0, .inr (13, zs)), (qf4, .inl (cf4, 3008, .inl f4)), (qf7, .inl (cf7, 3002, .inl f7))]) [0, 1, 2] (by decide) rfl
  have hKc := hK.sub (tys' := [(cf4, .int), (cf7, .int)]) [0, 1] rfl
  have hFc := va_free (wc := [(h0, .inr (13, zs)), (qf4, .inl (cf4, 3008, .inl f4)), (qf7, .inl (cf7, 3002, .inl f7))]) hD hS hA [0, 1, 2] rfl
  refine va_calli (va_runV (As := [.int v23, .int 40]) (rest := []) ⟨hx, hb, hml, hown, hts⟩ (tm_isSign l dC dI H.size h0 zs v23 40 qf4 qf7 cf4 f4 cf7 f7 nf u1_0 hlen hf4 hf7 hu_1) (cwV 2 hts gv_h9_10 rfl rfl rfl (by decide +kernel) ⟨Nat.le_of_ble_eq_true rfl, Nat.le_of_ble_eq_true rfl⟩) ⟨fun a U g mk q => by obtain ⟨q0, q1, qP, qK, qD⟩ := q; exact ⟨q0, q1, qP, va_K.moved (u := U) (U := U.calling g mk a) (Vm.Alike.refl U.vm) qK, qD⟩, va_recv hKc hPc (ci := 13) (q0 := 0) rfl rfl, fun U hU hW => ⟨rfl, by rw [hU], by rw [hU]; exact hPc, va_K.moved hW.alike hKc, hDc.weaken (fun _ _ _ _ => trivial)⟩⟩ rfl rfl hl.1 rfl (lv_room (Nat.le_of_ble_eq_true rfl)) dX13_isCast_7 ⟨Nat.le_of_ble_eq_true rfl, Nat.le_of_ble_eq_true rfl⟩) hS (fun q _ h => hFc q h) hFc ?_
  clear hS
  intro r_1 u t H1 locs ht hvm hw hB hz1 hk1 hS
  obtain ⟨z_1, rfl⟩ : ∃ z, z = u := ⟨_, rfl⟩
  obtain ⟨hP1, hK1, hD1⟩ := hB
  rw [ht] at hP1
  have hK1 := va_K.moved hvm.symm hK1
  try dsimp only at hw
  have hPD := va_join (wr := []) (w1 := [(h0, .inr (13, z_1)), (qf4, .inl (cf4, 3008, .inl f4)), (qf7, .inl (cf7, 3002, .inl f7))]) hP hD [0, 1, 2] [] rfl rfl (by decide) (by decide) hk1 hFc hP1 hD1
  clear hP hD
  obtain ⟨hP, hD⟩ := hPD
  replace hK := (hK.sub (tys' := []) [] rfl).app hK1
  clear hPc hDc hKc hFc hP1 hK1 hD1 hz1 hk1 ht hvm
  generalize H1 = H at hP hS ⊢
  replace hP : va_P (dC, dI) vwCl [(h0, .inr (13, z_1)), (qf4, .inl (cf4, 3008, .inl f4)), (qf7, .inl (cf7, 3002, .inl f7))] H := hP
  replace hD : va_D A [(h0, .inr (13, z_1)), (qf4, .inl (cf4, 3008, .inl f4)), (qf7, .inl (cf7, 3002, .inl f7))] := hD
  replace hK : va_K (dC, dI) vwCl [(cf4, .int), (cf7, .int)] s := hK
  obtain ⟨hwa_1, hln_1, hre_1⟩ := hw
  have hfk_1_4 : z_1[4]? = some (.ref qf4) := (hre_1 4 ).trans (hf4)
  have hfk_1_7 : z_1[7]? = some (.ref qf7) := (hre_1 7 ).trans (hf7)
  have hfk_1_23 : z_1[23]? = some (.int v23) := (hre_1 23 ).trans (hf23)
  have hrq_1 : ∀ j : Nat, z_1[j]? = zs[j]? := fun j  => (hre_1 j ).trans (hrs0 j )
  obtain ⟨rfl, hz_1⟩ := hwa_1
  rcases hz_1 with rfl | rfl
  · rw [if_pos rfl] at hsp
    refine lv_if_eq (tgt := 43) hx hb dX13_isCast_10 (by decide) (fun c_2 => ?_) (fun c_2 => (show False by revert c_2; decide).elim)
    refine lv_iconst (v := 0) hx hb dX13_isCast_43 (by decide) ?_
    have hr0 := Option.some.inj hsp
    clear hsp
    subst hr0
    have hP9 := hP.sub (ws' := [(h0, .inr (13, z_1)), (qf4, .inl (cf4, 3008, .inl f4)), (qf7, .inl (cf7, 3002, .inl f7))]) [0, 1, 2] rfl
    have hD9 := hD.sub (ws' := [(h0, .inr (13, z_1)), (qf4, .inl (cf4, 3008, .inl f4)), (qf7, .inl (cf7, 3002, .inl f7))]) [0, 1, 2] (by decide) rfl
    have hK9 := hK.sub (tys' := [(cf4, .int), (cf7, .int)]) [0, 1] rfl
    exact W.zret hx hb hr (by decide) (fun t ht hW => ⟨⟨(0), (z_1), rfl, ⟨⟨rfl, Or.inl rfl⟩, hln_1, hrq_1⟩, by rw [ht]; exact hP9, va_K.moved hW.alike hK9, hD9⟩, hS.F ht⟩) hS.2.2 dX13_isCast_44
  · rw [if_neg (by decide)] at hsp
    refine lv_if_eq (tgt := 43) hx hb dX13_isCast_10 (by decide) (fun c_3 => (show False by revert c_3; decide).elim) (fun c_3 => ?_)
    refine lv_aload_n hx hb dX13_isCast_13 rfl (lv_at hl 0 rfl) ?_
    refine va_get (D := (dC, dI)) (ci := 13) (v := .ref qf4) (C := RX13) (T := TX13) (N := 155) hx hb hts uV_h9_X13 hown hK hP 0 rfl rfl 4 (by decide) (hts (.fieldLink RX13 16 "ClassMillModel" "kind" "[I") mw_h9_32) (fun _ h9 => h9) hfk_1_4 dX13_isCast_14 ?_
    refine lv_aload_n hx hb dX13_isCast_17 rfl (lv_at hl 0 rfl) ?_
    refine va_get (D := (dC, dI)) (ci := 13) (v := .int v23) (C := RX13) (T := TX13) (N := 155) hx hb hts uV_h9_X13 hown hK hP 0 rfl rfl 23 (by decide) (hts (.fieldLink RX13 376 "ClassMillModel" "cursor" "I") mw_h9_67) (fun _ h9 => h9) hfk_1_23 dX13_isCast_18 ?_
    refine lv_iconst (v := 1) hx hb dX13_isCast_21 (by decide) ?_
    refine lv_iadd hx hb dX13_isCast_22 ?_
    obtain ⟨hi_4, hsp⟩ := ox_in hsp
    refine va_iald hx hb hK hP 1 0 rfl rfl (i := (v23 + 1)) hi_4 dX13_isCast_23 ?_
    refine lv_iconst (v := 1) hx hb dX13_isCast_24 (by decide) ?_
    refine lv_icmp_ne (tgt := 43) hx hb dX13_isCast_25 (by decide) (fun c_5 => ?_) (fun c_5 => ?_)
    · rw [if_neg c_5] at hsp
      refine lv_iconst (v := 0) hx hb dX13_isCast_43 (by decide) ?_
      have hr0 := Option.some.inj hsp
      clear hsp
      subst hr0
      have hP9 := hP.sub (ws' := [(h0, .inr (13, z_1)), (qf4, .inl (cf4, 3008, .inl f4)), (qf7, .inl (cf7, 3002, .inl f7))]) [0, 1, 2] rfl
      have hD9 := hD.sub (ws' := [(h0, .inr (13, z_1)), (qf4, .inl (cf4, 3008, .inl f4)), (qf7, .inl (cf7, 3002, .inl f7))]) [0, 1, 2] (by decide) rfl
      have hK9 := hK.sub (tys' := [(cf4, .int), (cf7, .int)]) [0, 1] rfl
      exact W.zret hx hb hr (by decide) (fun t ht hW => ⟨⟨(0), (z_1), rfl, ⟨⟨rfl, Or.inl rfl⟩, hln_1, hrq_1⟩, by rw [ht]; exact hP9, va_K.moved hW.alike hK9, hD9⟩, hS.F ht⟩) hS.2.2 dX13_isCast_44
    · rw [if_pos c_5] at hsp
      refine lv_aload_n hx hb dX13_isCast_28 rfl (lv_at hl 0 rfl) ?_
      refine lv_aload_n hx hb dX13_isCast_29 rfl (lv_at hl 0 rfl) ?_
      refine va_get (D := (dC, dI)) (ci := 13) (v := .int v23) (C := RX13) (T := TX13) (N := 155) hx hb hts uV_h9_X13 hown hK hP 0 rfl rfl 23 (by decide) (hts (.fieldLink RX13 376 "ClassMillModel" "cursor" "I") mw_h9_67) (fun _ h9 => h9) hfk_1_23 dX13_isCast_30 ?_
      refine lv_iconst (v := 2) hx hb dX13_isCast_33 (by decide) ?_
      refine lv_iadd hx hb dX13_isCast_34 ?_
      refine lv_bipush (v := 41) hx hb dX13_isCast_35 (by decide) ?_
      obtain ⟨u2_0, hu_2, hsp⟩ := ox_bind hsp
      try dsimp only at hsp
      have hPc := hP.sub (ws' := [(h0, .inr (13, z_1)), (qf4, .inl (cf4, 3008, .inl f4)), (qf7, .inl (cf7, 3002, .inl f7))]) [0, 1, 2] rfl
      have hDc := hD.sub (ws' := [(h0, .inr (13, z_1)), (qf4, .inl (cf4, 3008, .inl f4)), (qf7, .inl (cf7, 3002, .inl f7))]) [0, 1, 2] (by decide) rfl
      have hKc := hK.sub (tys' := [(cf4, .int), (cf7, .int)]) [0, 1] rfl
      have hFc := va_free (wc := [(h0, .inr (13, z_1)), (qf4, .inl (cf4, 3008, .inl f4)), (qf7, .inl (cf7, 3002, .inl f7))]) hD hS hA [0, 1, 2] rfl
      refine va_calli (va_runV (As := [.int (v23 + 2), .int 41]) (rest := []) ⟨hx, hb, hml, hown, hts⟩ (tm_isSign l dC dI H.size h0 z_1 ((v23 + 2)) 41 qf4 qf7 cf4 f4 cf7 f7 nf u2_0 hln_1 hfk_1_4 hfk_1_7 hu_2) (cwV 2 hts gv_h9_10 rfl rfl rfl (by decide +kernel) ⟨Nat.le_of_ble_eq_true rfl, Nat.le_of_ble_eq_true rfl⟩) ⟨fun a U g mk q => by obtain ⟨q0, q1, qP, qK, qD⟩ := q; exact ⟨q0, q1, qP, va_K.moved (u := U) (U := U.calling g mk a) (Vm.Alike.refl U.vm) qK, qD⟩, va_recv hKc hPc (ci := 13) (q0 := 0) rfl rfl, fun U hU hW => ⟨rfl, by rw [hU], by rw [hU]; exact hPc, va_K.moved hW.alike hKc, hDc.weaken (fun _ _ _ _ => trivial)⟩⟩ rfl rfl hl.1 rfl (lv_room (Nat.le_of_ble_eq_true rfl)) dX13_isCast_37 ⟨Nat.le_of_ble_eq_true rfl, Nat.le_of_ble_eq_true rfl⟩) hS (fun q _ h => hFc q h) hFc ?_
      clear hS
      intro r_6 u t H1 locs ht hvm hw hB hz1 hk1 hS
      obtain ⟨z_2, rfl⟩ : ∃ z, z = u := ⟨_, rfl⟩
      obtain ⟨hP1, hK1, hD1⟩ := hB
      rw [ht] at hP1
      have hK1 := va_K.moved hvm.symm hK1
      try dsimp only at hw
      have hPD := va_join (wr := []) (w1 := [(h0, .inr (13, z_2)), (qf4, .inl (cf4, 3008, .inl f4)), (qf7, .inl (cf7, 3002, .inl f7))]) hP hD [0, 1, 2] [] rfl rfl (by decide) (by decide) hk1 hFc hP1 hD1
      clear hP hD
      obtain ⟨hP, hD⟩ := hPD
      replace hK := (hK.sub (tys' := []) [] rfl).app hK1
      clear hPc hDc hKc hFc hP1 hK1 hD1 hz1 hk1 ht hvm
      generalize H1 = H at hP hS ⊢
      replace hP : va_P (dC, dI) vwCl [(h0, .inr (13, z_2)), (qf4, .inl (cf4, 3008, .inl f4)), (qf7, .inl (cf7, 3002, .inl f7))] H := hP
      replace hD : va_D A [(h0, .inr (13, z_2)), (qf4, .inl (cf4, 3008, .inl f4)), (qf7, .inl (cf7, 3002, .inl f7))] := hD
      replace hK : va_K (dC, dI) vwCl [(cf4, .int), (cf7, .int)] s := hK
      obtain ⟨hwa_2, hln_2, hre_2⟩ := hw
      have hfk_2_4 : z_2[4]? = some (.ref qf4) := (hre_2 4 ).trans (hfk_1_4)
      have hfk_2_7 : z_2[7]? = some (.ref qf7) := (hre_2 7 ).trans (hfk_1_7)
      have hfk_2_23 : z_2[23]? = some (.int v23) := (hre_2 23 ).trans (hfk_1_23)
      have hrq_2 : ∀ j : Nat, z_2[j]? = zs[j]? := fun j  => (hre_2 j ).trans (hrq_1 j )
      obtain ⟨rfl, hz_2⟩ := hwa_2
      rcases hz_2 with rfl | rfl
      · rw [if_pos rfl] at hsp
        refine lv_if_ne (tgt := 45) hx hb dX13_isCast_40 (by decide) (fun c_7 => (show False by revert c_7; decide).elim) (fun c_7 => ?_)
        refine lv_iconst (v := 0) hx hb dX13_isCast_43 (by decide) ?_
        have hr0 := Option.some.inj hsp
        clear hsp
        subst hr0
        have hP9 := hP.sub (ws' := [(h0, .inr (13, z_2)), (qf4, .inl (cf4, 3008, .inl f4)), (qf7, .inl (cf7, 3002, .inl f7))]) [0, 1, 2] rfl
        have hD9 := hD.sub (ws' := [(h0, .inr (13, z_2)), (qf4, .inl (cf4, 3008, .inl f4)), (qf7, .inl (cf7, 3002, .inl f7))]) [0, 1, 2] (by decide) rfl
        have hK9 := hK.sub (tys' := [(cf4, .int), (cf7, .int)]) [0, 1] rfl
        exact W.zret hx hb hr (by decide) (fun t ht hW => ⟨⟨(0), (z_2), rfl, ⟨⟨rfl, Or.inl rfl⟩, hln_2, hrq_2⟩, by rw [ht]; exact hP9, va_K.moved hW.alike hK9, hD9⟩, hS.F ht⟩) hS.2.2 dX13_isCast_44
      · rw [if_neg (by decide)] at hsp
        refine lv_if_ne (tgt := 45) hx hb dX13_isCast_40 (by decide) (fun c_8 => ?_) (fun c_8 => (show False by revert c_8; decide).elim)
        refine lv_aload_n hx hb dX13_isCast_45 rfl (lv_at hl 0 rfl) ?_
        refine va_get (D := (dC, dI)) (ci := 13) (v := .int v23) (C := RX13) (T := TX13) (N := 155) hx hb hts uV_h9_X13 hown hK hP 0 rfl rfl 23 (by decide) (hts (.fieldLink RX13 376 "ClassMillModel" "cursor" "I") mw_h9_67) (fun _ h9 => h9) hfk_2_23 dX13_isCast_46 ?_
        refine lv_iconst (v := 3) hx hb dX13_isCast_49 (by decide) ?_
        refine lv_iadd hx hb dX13_isCast_50 ?_
        refine lv_istore_n (lv' := [(1, .int (v23 + 3)), (0, .ref h0)]) hx hb dX13_isCast_51 rfl hl (by decide) rfl (fun ls hl => ?_)
        refine lv_aload_n hx hb dX13_isCast_52 rfl (lv_at hl 1 rfl) ?_
        refine va_get (D := (dC, dI)) (ci := 13) (v := .ref qf4) (C := RX13) (T := TX13) (N := 155) hx hb hts uV_h9_X13 hown hK hP 0 rfl rfl 4 (by decide) (hts (.fieldLink RX13 16 "ClassMillModel" "kind" "[I") mw_h9_32) (fun _ h9 => h9) hfk_2_4 dX13_isCast_53 ?_
        refine lv_iload_n hx hb dX13_isCast_56 rfl (lv_at hl 0 rfl) ?_
        obtain ⟨hi_9, hsp⟩ := ox_in hsp
        refine va_iald hx hb hK hP 1 0 rfl rfl (i := (v23 + 3)) hi_9 dX13_isCast_57 ?_
        refine lv_iconst (v := 1) hx hb dX13_isCast_58 (by decide) ?_
        refine lv_icmp_eq (tgt := 72) hx hb dX13_isCast_59 (by decide) (fun c_10 => ?_) (fun c_10 => ?_)
        · rw [if_pos c_10] at hsp
          refine lv_iconst (v := 1) hx hb dX13_isCast_72 (by decide) ?_
          have hr0 := Option.some.inj hsp
          clear hsp
          subst hr0
          have hP9 := hP.sub (ws' := [(h0, .inr (13, z_2)), (qf4, .inl (cf4, 3008, .inl f4)), (qf7, .inl (cf7, 3002, .inl f7))]) [0, 1, 2] rfl
          have hD9 := hD.sub (ws' := [(h0, .inr (13, z_2)), (qf4, .inl (cf4, 3008, .inl f4)), (qf7, .inl (cf7, 3002, .inl f7))]) [0, 1, 2] (by decide) rfl
          have hK9 := hK.sub (tys' := [(cf4, .int), (cf7, .int)]) [0, 1] rfl
          exact W.zret hx hb hr (by decide) (fun t ht hW => ⟨⟨(1), (z_2), rfl, ⟨⟨rfl, Or.inr rfl⟩, hln_2, hrq_2⟩, by rw [ht]; exact hP9, va_K.moved hW.alike hK9, hD9⟩, hS.F ht⟩) hS.2.2 dX13_isCast_73
        · rw [if_neg c_10] at hsp
          refine lv_aload_n hx hb dX13_isCast_62 rfl (lv_at hl 1 rfl) ?_
          refine va_get (D := (dC, dI)) (ci := 13) (v := .ref qf4) (C := RX13) (T := TX13) (N := 155) hx hb hts uV_h9_X13 hown hK hP 0 rfl rfl 4 (by decide) (hts (.fieldLink RX13 16 "ClassMillModel" "kind" "[I") mw_h9_32) (fun _ h9 => h9) hfk_2_4 dX13_isCast_63 ?_
          refine lv_iload_n hx hb dX13_isCast_66 rfl (lv_at hl 0 rfl) ?_
          obtain ⟨hi_11, hsp⟩ := ox_in hsp
          refine va_iald hx hb hK hP 1 0 rfl rfl (i := (v23 + 3)) hi_11 dX13_isCast_67 ?_
          refine lv_iconst (v := 2) hx hb dX13_isCast_68 (by decide) ?_
          refine lv_icmp_ne (tgt := 74) hx hb dX13_isCast_69 (by decide) (fun c_12 => ?_) (fun c_12 => ?_)
          · rw [if_neg c_12] at hsp
            refine lv_aload_n hx hb dX13_isCast_74 rfl (lv_at hl 1 rfl) ?_
            refine lv_iload_n hx hb dX13_isCast_75 rfl (lv_at hl 0 rfl) ?_
            refine lv_bipush (v := 40) hx hb dX13_isCast_76 (by decide) ?_
            obtain ⟨u3_0, hu_3, hsp⟩ := ox_bind hsp
            try dsimp only at hsp
            have hPc := hP.sub (ws' := [(h0, .inr (13, z_2)), (qf4, .inl (cf4, 3008, .inl f4)), (qf7, .inl (cf7, 3002, .inl f7))]) [0, 1, 2] rfl
            have hDc := hD.sub (ws' := [(h0, .inr (13, z_2)), (qf4, .inl (cf4, 3008, .inl f4)), (qf7, .inl (cf7, 3002, .inl f7))]) [0, 1, 2] (by decide) rfl
            have hKc := hK.sub (tys' := [(cf4, .int), (cf7, .int)]) [0, 1] rfl
            have hFc := va_free (wc := [(h0, .inr (13, z_2)), (qf4, .inl (cf4, 3008, .inl f4)), (qf7, .inl (cf7, 3002, .inl f7))]) hD hS hA [0, 1, 2] rfl
            refine va_calli (va_runV (As := [.int (v23 + 3), .int 40]) (rest := []) ⟨hx, hb, hml, hown, hts⟩ (tm_isSign l dC dI H.size h0 z_2 ((v23 + 3)) 40 qf4 qf7 cf4 f4 cf7 f7 nf u3_0 hln_2 hfk_2_4 hfk_2_7 hu_3) (cwV 2 hts gv_h9_10 rfl rfl rfl (by decide +kernel) ⟨Nat.le_of_ble_eq_true rfl, Nat.le_of_ble_eq_true rfl⟩) ⟨fun a U g mk q => by obtain ⟨q0, q1, qP, qK, qD⟩ := q; exact ⟨q0, q1, qP, va_K.moved (u := U) (U := U.calling g mk a) (Vm.Alike.refl U.vm) qK, qD⟩, va_recv hKc hPc (ci := 13) (q0 := 0) rfl rfl, fun U hU hW => ⟨rfl, by rw [hU], by rw [hU]; exact hPc, va_K.moved hW.alike hKc, hDc.weaken (fun _ _ _ _ => trivial)⟩⟩ rfl rfl hl.1 rfl (lv_room (Nat.le_of_ble_eq_true rfl)) dX13_isCast_78 ⟨Nat.le_of_ble_eq_true rfl, Nat.le_of_ble_eq_true rfl⟩) hS (fun q _ h => hFc q h) hFc ?_
            clear hS
            intro r_13 u t H1 locs ht hvm hw hB hz1 hk1 hS
            obtain ⟨z_3, rfl⟩ : ∃ z, z = u := ⟨_, rfl⟩
            obtain ⟨hP1, hK1, hD1⟩ := hB
            rw [ht] at hP1
            have hK1 := va_K.moved hvm.symm hK1
            try dsimp only at hw
            have hPD := va_join (wr := []) (w1 := [(h0, .inr (13, z_3)), (qf4, .inl (cf4, 3008, .inl f4)), (qf7, .inl (cf7, 3002, .inl f7))]) hP hD [0, 1, 2] [] rfl rfl (by decide) (by decide) hk1 hFc hP1 hD1
            clear hP hD
            obtain ⟨hP, hD⟩ := hPD
            replace hK := (hK.sub (tys' := []) [] rfl).app hK1
            clear hPc hDc hKc hFc hP1 hK1 hD1 hz1 hk1 ht hvm
            generalize H1 = H at hP hS ⊢
            replace hP : va_P (dC, dI) vwCl [(h0, .inr (13, z_3)), (qf4, .inl (cf4, 3008, .inl f4)), (qf7, .inl (cf7, 3002, .inl f7))] H := hP
            replace hD : va_D A [(h0, .inr (13, z_3)), (qf4, .inl (cf4, 3008, .inl f4)), (qf7, .inl (cf7, 3002, .inl f7))] := hD
            replace hK : va_K (dC, dI) vwCl [(cf4, .int), (cf7, .int)] s := hK
            obtain ⟨hwa_3, hln_3, hre_3⟩ := hw
            have hfk_3_4 : z_3[4]? = some (.ref qf4) := (hre_3 4 ).trans (hfk_2_4)
            have hfk_3_7 : z_3[7]? = some (.ref qf7) := (hre_3 7 ).trans (hfk_2_7)
            have hfk_3_23 : z_3[23]? = some (.int v23) := (hre_3 23 ).trans (hfk_2_23)
            have hrq_3 : ∀ j : Nat, z_3[j]? = zs[j]? := fun j  => (hre_3 j ).trans (hrq_2 j )
            obtain ⟨rfl, hz_3⟩ := hwa_3
            rcases hz_3 with rfl | rfl
            · rw [if_pos rfl] at hsp
              refine lv_if_ne (tgt := 154) hx hb dX13_isCast_81 (by decide) (fun c_14 => (show False by revert c_14; decide).elim) (fun c_14 => ?_)
              refine lv_aload_n hx hb dX13_isCast_84 rfl (lv_at hl 1 rfl) ?_
              refine lv_iload_n hx hb dX13_isCast_85 rfl (lv_at hl 0 rfl) ?_
              refine lv_bipush (v := 33) hx hb dX13_isCast_86 (by decide) ?_
              obtain ⟨u4_0, hu_4, hsp⟩ := ox_bind hsp
              try dsimp only at hsp
              have hPc := hP.sub (ws' := [(h0, .inr (13, z_3)), (qf4, .inl (cf4, 3008, .inl f4)), (qf7, .inl (cf7, 3002, .inl f7))]) [0, 1, 2] rfl
              have hDc := hD.sub (ws' := [(h0, .inr (13, z_3)), (qf4, .inl (cf4, 3008, .inl f4)), (qf7, .inl (cf7, 3002, .inl f7))]) [0, 1, 2] (by decide) rfl
              have hKc := hK.sub (tys' := [(cf4, .int), (cf7, .int)]) [0, 1] rfl
              have hFc := va_free (wc := [(h0, .inr (13, z_3)), (qf4, .inl (cf4, 3008, .inl f4)), (qf7, .inl (cf7, 3002, .inl f7))]) hD hS hA [0, 1, 2] rfl
              refine va_calli (va_runV (As := [.int (v23 + 3), .int 33]) (rest := []) ⟨hx, hb, hml, hown, hts⟩ (tm_isSign l dC dI H.size h0 z_3 ((v23 + 3)) 33 qf4 qf7 cf4 f4 cf7 f7 nf u4_0 hln_3 hfk_3_4 hfk_3_7 hu_4) (cwV 2 hts gv_h9_10 rfl rfl rfl (by decide +kernel) ⟨Nat.le_of_ble_eq_true rfl, Nat.le_of_ble_eq_true rfl⟩) ⟨fun a U g mk q => by obtain ⟨q0, q1, qP, qK, qD⟩ := q; exact ⟨q0, q1, qP, va_K.moved (u := U) (U := U.calling g mk a) (Vm.Alike.refl U.vm) qK, qD⟩, va_recv hKc hPc (ci := 13) (q0 := 0) rfl rfl, fun U hU hW => ⟨rfl, by rw [hU], by rw [hU]; exact hPc, va_K.moved hW.alike hKc, hDc.weaken (fun _ _ _ _ => trivial)⟩⟩ rfl rfl hl.1 rfl (lv_room (Nat.le_of_ble_eq_true rfl)) dX13_isCast_88 ⟨Nat.le_of_ble_eq_true rfl, Nat.le_of_ble_eq_true rfl⟩) hS (fun q _ h => hFc q h) hFc ?_
              clear hS
              intro r_15 u t H1 locs ht hvm hw hB hz1 hk1 hS
              obtain ⟨z_4, rfl⟩ : ∃ z, z = u := ⟨_, rfl⟩
              obtain ⟨hP1, hK1, hD1⟩ := hB
              rw [ht] at hP1
              have hK1 := va_K.moved hvm.symm hK1
              try dsimp only at hw
              have hPD := va_join (wr := []) (w1 := [(h0, .inr (13, z_4)), (qf4, .inl (cf4, 3008, .inl f4)), (qf7, .inl (cf7, 3002, .inl f7))]) hP hD [0, 1, 2] [] rfl rfl (by decide) (by decide) hk1 hFc hP1 hD1
              clear hP hD
              obtain ⟨hP, hD⟩ := hPD
              replace hK := (hK.sub (tys' := []) [] rfl).app hK1
              clear hPc hDc hKc hFc hP1 hK1 hD1 hz1 hk1 ht hvm
              generalize H1 = H at hP hS ⊢
              replace hP : va_P (dC, dI) vwCl [(h0, .inr (13, z_4)), (qf4, .inl (cf4, 3008, .inl f4)), (qf7, .inl (cf7, 3002, .inl f7))] H := hP
              replace hD : va_D A [(h0, .inr (13, z_4)), (qf4, .inl (cf4, 3008, .inl f4)), (qf7, .inl (cf7, 3002, .inl f7))] := hD
              replace hK : va_K (dC, dI) vwCl [(cf4, .int), (cf7, .int)] s := hK
              obtain ⟨hwa_4, hln_4, hre_4⟩ := hw
              have hfk_4_4 : z_4[4]? = some (.ref qf4) := (hre_4 4 ).trans (hfk_3_4)
              have hfk_4_7 : z_4[7]? = some (.ref qf7) := (hre_4 7 ).trans (hfk_3_7)
              have hfk_4_23 : z_4[23]? = some (.int v23) := (hre_4 23 ).trans (hfk_3_23)
              have hrq_4 : ∀ j : Nat, z_4[j]? = zs[j]? := fun j  => (hre_4 j ).trans (hrq_3 j )
              obtain ⟨rfl, hz_4⟩ := hwa_4
              rcases hz_4 with rfl | rfl
              · rw [if_pos rfl] at hsp
                refine lv_if_ne (tgt := 154) hx hb dX13_isCast_91 (by decide) (fun c_16 => (show False by revert c_16; decide).elim) (fun c_16 => ?_)
                refine lv_aload_n hx hb dX13_isCast_94 rfl (lv_at hl 1 rfl) ?_
                refine lv_iload_n hx hb dX13_isCast_95 rfl (lv_at hl 0 rfl) ?_
                refine lv_bipush (v := 126) hx hb dX13_isCast_96 (by decide) ?_
                obtain ⟨u5_0, hu_5, hsp⟩ := ox_bind hsp
                try dsimp only at hsp
                have hPc := hP.sub (ws' := [(h0, .inr (13, z_4)), (qf4, .inl (cf4, 3008, .inl f4)), (qf7, .inl (cf7, 3002, .inl f7))]) [0, 1, 2] rfl
                have hDc := hD.sub (ws' := [(h0, .inr (13, z_4)), (qf4, .inl (cf4, 3008, .inl f4)), (qf7, .inl (cf7, 3002, .inl f7))]) [0, 1, 2] (by decide) rfl
                have hKc := hK.sub (tys' := [(cf4, .int), (cf7, .int)]) [0, 1] rfl
                have hFc := va_free (wc := [(h0, .inr (13, z_4)), (qf4, .inl (cf4, 3008, .inl f4)), (qf7, .inl (cf7, 3002, .inl f7))]) hD hS hA [0, 1, 2] rfl
                refine va_calli (va_runV (As := [.int (v23 + 3), .int 126]) (rest := []) ⟨hx, hb, hml, hown, hts⟩ (tm_isSign l dC dI H.size h0 z_4 ((v23 + 3)) 126 qf4 qf7 cf4 f4 cf7 f7 nf u5_0 hln_4 hfk_4_4 hfk_4_7 hu_5) (cwV 2 hts gv_h9_10 rfl rfl rfl (by decide +kernel) ⟨Nat.le_of_ble_eq_true rfl, Nat.le_of_ble_eq_true rfl⟩) ⟨fun a U g mk q => by obtain ⟨q0, q1, qP, qK, qD⟩ := q; exact ⟨q0, q1, qP, va_K.moved (u := U) (U := U.calling g mk a) (Vm.Alike.refl U.vm) qK, qD⟩, va_recv hKc hPc (ci := 13) (q0 := 0) rfl rfl, fun U hU hW => ⟨rfl, by rw [hU], by rw [hU]; exact hPc, va_K.moved hW.alike hKc, hDc.weaken (fun _ _ _ _ => trivial)⟩⟩ rfl rfl hl.1 rfl (lv_room (Nat.le_of_ble_eq_true rfl)) dX13_isCast_98 ⟨Nat.le_of_ble_eq_true rfl, Nat.le_of_ble_eq_true rfl⟩) hS (fun q _ h => hFc q h) hFc ?_
                clear hS
                intro r_17 u t H1 locs ht hvm hw hB hz1 hk1 hS
                obtain ⟨z_5, rfl⟩ : ∃ z, z = u := ⟨_, rfl⟩
                obtain ⟨hP1, hK1, hD1⟩ := hB
                rw [ht] at hP1
                have hK1 := va_K.moved hvm.symm hK1
                try dsimp only at hw
                have hPD := va_join (wr := []) (w1 := [(h0, .inr (13, z_5)), (qf4, .inl (cf4, 3008, .inl f4)), (qf7, .inl (cf7, 3002, .inl f7))]) hP hD [0, 1, 2] [] rfl rfl (by decide) (by decide) hk1 hFc hP1 hD1
                clear hP hD
                obtain ⟨hP, hD⟩ := hPD
                replace hK := (hK.sub (tys' := []) [] rfl).app hK1
                clear hPc hDc hKc hFc hP1 hK1 hD1 hz1 hk1 ht hvm
                generalize H1 = H at hP hS ⊢
                replace hP : va_P (dC, dI) vwCl [(h0, .inr (13, z_5)), (qf4, .inl (cf4, 3008, .inl f4)), (qf7, .inl (cf7, 3002, .inl f7))] H := hP
                replace hD : va_D A [(h0, .inr (13, z_5)), (qf4, .inl (cf4, 3008, .inl f4)), (qf7, .inl (cf7, 3002, .inl f7))] := hD
                replace hK : va_K (dC, dI) vwCl [(cf4, .int), (cf7, .int)] s := hK
                obtain ⟨hwa_5, hln_5, hre_5⟩ := hw
                have hfk_5_4 : z_5[4]? = some (.ref qf4) := (hre_5 4 ).trans (hfk_4_4)
                have hfk_5_7 : z_5[7]? = some (.ref qf7) := (hre_5 7 ).trans (hfk_4_7)
                have hfk_5_23 : z_5[23]? = some (.int v23) := (hre_5 23 ).trans (hfk_4_23)
                have hrq_5 : ∀ j : Nat, z_5[j]? = zs[j]? := fun j  => (hre_5 j ).trans (hrq_4 j )
                obtain ⟨rfl, hz_5⟩ := hwa_5
                rcases hz_5 with rfl | rfl
                · rw [if_pos rfl] at hsp
                  refine lv_if_ne (tgt := 154) hx hb dX13_isCast_101 (by decide) (fun c_18 => (show False by revert c_18; decide).elim) (fun c_18 => ?_)
                  refine lv_aload_n hx hb dX13_isCast_104 rfl (lv_at hl 1 rfl) ?_
                  refine lv_iload_n hx hb dX13_isCast_105 rfl (lv_at hl 0 rfl) ?_
                  refine lv_bipush (v := 16) hx hb dX13_isCast_106 (by decide) ?_
                  obtain ⟨u6_0, hu_6, hsp⟩ := ox_bind hsp
                  try dsimp only at hsp
                  have hPc := hP.sub (ws' := [(h0, .inr (13, z_5)), (qf4, .inl (cf4, 3008, .inl f4)), (qf7, .inl (cf7, 3002, .inl f7))]) [0, 1, 2] rfl
                  have hDc := hD.sub (ws' := [(h0, .inr (13, z_5)), (qf4, .inl (cf4, 3008, .inl f4)), (qf7, .inl (cf7, 3002, .inl f7))]) [0, 1, 2] (by decide) rfl
                  have hKc := hK.sub (tys' := [(cf4, .int), (cf7, .int)]) [0, 1] rfl
                  have hFc := va_free (wc := [(h0, .inr (13, z_5)), (qf4, .inl (cf4, 3008, .inl f4)), (qf7, .inl (cf7, 3002, .inl f7))]) hD hS hA [0, 1, 2] rfl
                  refine va_calli (va_runV (As := [.int (v23 + 3), .int 16]) (rest := []) ⟨hx, hb, hml, hown, hts⟩ (tm_isWord l dC dI H.size h0 z_5 ((v23 + 3)) 16 qf4 qf7 cf4 f4 cf7 f7 nf u6_0 hln_5 hfk_5_4 hfk_5_7 hu_6) (cwV 2 hts gv_h9_8 rfl rfl rfl (by decide +kernel) ⟨Nat.le_of_ble_eq_true rfl, Nat.le_of_ble_eq_true rfl⟩) ⟨fun a U g mk q => by obtain ⟨q0, q1, qP, qK, qD⟩ := q; exact ⟨q0, q1, qP, va_K.moved (u := U) (U := U.calling g mk a) (Vm.Alike.refl U.vm) qK, qD⟩, va_recv hKc hPc (ci := 13) (q0 := 0) rfl rfl, fun U hU hW => ⟨rfl, by rw [hU], by rw [hU]; exact hPc, va_K.moved hW.alike hKc, hDc.weaken (fun _ _ _ _ => trivial)⟩⟩ rfl rfl hl.1 rfl (lv_room (Nat.le_of_ble_eq_true rfl)) dX13_isCast_108 ⟨Nat.le_of_ble_eq_true rfl, Nat.le_of_ble_eq_true rfl⟩) hS (fun q _ h => hFc q h) hFc ?_
                  clear hS
                  intro r_19 u t H1 locs ht hvm hw hB hz1 hk1 hS
                  obtain ⟨z_6, rfl⟩ : ∃ z, z = u := ⟨_, rfl⟩
                  obtain ⟨hP1, hK1, hD1⟩ := hB
                  rw [ht] at hP1
                  have hK1 := va_K.moved hvm.symm hK1
                  try dsimp only at hw
                  have hPD := va_join (wr := []) (w1 := [(h0, .inr (13, z_6)), (qf4, .inl (cf4, 3008, .inl f4)), (qf7, .inl (cf7, 3002, .inl f7))]) hP hD [0, 1, 2] [] rfl rfl (by decide) (by decide) hk1 hFc hP1 hD1
                  clear hP hD
                  obtain ⟨hP, hD⟩ := hPD
                  replace hK := (hK.sub (tys' := []) [] rfl).app hK1
                  clear hPc hDc hKc hFc hP1 hK1 hD1 hz1 hk1 ht hvm
                  generalize H1 = H at hP hS ⊢
                  replace hP : va_P (dC, dI) vwCl [(h0, .inr (13, z_6)), (qf4, .inl (cf4, 3008, .inl f4)), (qf7, .inl (cf7, 3002, .inl f7))] H := hP
                  replace hD : va_D A [(h0, .inr (13, z_6)), (qf4, .inl (cf4, 3008, .inl f4)), (qf7, .inl (cf7, 3002, .inl f7))] := hD
                  replace hK : va_K (dC, dI) vwCl [(cf4, .int), (cf7, .int)] s := hK
                  obtain ⟨hwa_6, hln_6, hre_6⟩ := hw
                  have hfk_6_4 : z_6[4]? = some (.ref qf4) := (hre_6 4 ).trans (hfk_5_4)
                  have hfk_6_7 : z_6[7]? = some (.ref qf7) := (hre_6 7 ).trans (hfk_5_7)
                  have hfk_6_23 : z_6[23]? = some (.int v23) := (hre_6 23 ).trans (hfk_5_23)
                  have hrq_6 : ∀ j : Nat, z_6[j]? = zs[j]? := fun j  => (hre_6 j ).trans (hrq_5 j )
                  obtain ⟨rfl, hz_6⟩ := hwa_6
                  rcases hz_6 with rfl | rfl
                  · rw [if_pos rfl] at hsp
                    refine lv_if_ne (tgt := 154) hx hb dX13_isCast_111 (by decide) (fun c_20 => (show False by revert c_20; decide).elim) (fun c_20 => ?_)
                    refine lv_aload_n hx hb dX13_isCast_114 rfl (lv_at hl 1 rfl) ?_
                    refine lv_iload_n hx hb dX13_isCast_115 rfl (lv_at hl 0 rfl) ?_
                    refine lv_bipush (v := 11) hx hb dX13_isCast_116 (by decide) ?_
                    obtain ⟨u7_0, hu_7, hsp⟩ := ox_bind hsp
                    try dsimp only at hsp
                    have hPc := hP.sub (ws' := [(h0, .inr (13, z_6)), (qf4, .inl (cf4, 3008, .inl f4)), (qf7, .inl (cf7, 3002, .inl f7))]) [0, 1, 2] rfl
                    have hDc := hD.sub (ws' := [(h0, .inr (13, z_6)), (qf4, .inl (cf4, 3008, .inl f4)), (qf7, .inl (cf7, 3002, .inl f7))]) [0, 1, 2] (by decide) rfl
                    have hKc := hK.sub (tys' := [(cf4, .int), (cf7, .int)]) [0, 1] rfl
                    have hFc := va_free (wc := [(h0, .inr (13, z_6)), (qf4, .inl (cf4, 3008, .inl f4)), (qf7, .inl (cf7, 3002, .inl f7))]) hD hS hA [0, 1, 2] rfl
                    refine va_calli (va_runV (As := [.int (v23 + 3), .int 11]) (rest := []) ⟨hx, hb, hml, hown, hts⟩ (tm_isWord l dC dI H.size h0 z_6 ((v23 + 3)) 11 qf4 qf7 cf4 f4 cf7 f7 nf u7_0 hln_6 hfk_6_4 hfk_6_7 hu_7) (cwV 2 hts gv_h9_8 rfl rfl rfl (by decide +kernel) ⟨Nat.le_of_ble_eq_true rfl, Nat.le_of_ble_eq_true rfl⟩) ⟨fun a U g mk q => by obtain ⟨q0, q1, qP, qK, qD⟩ := q; exact ⟨q0, q1, qP, va_K.moved (u := U) (U := U.calling g mk a) (Vm.Alike.refl U.vm) qK, qD⟩, va_recv hKc hPc (ci := 13) (q0 := 0) rfl rfl, fun U hU hW => ⟨rfl, by rw [hU], by rw [hU]; exact hPc, va_K.moved hW.alike hKc, hDc.weaken (fun _ _ _ _ => trivial)⟩⟩ rfl rfl hl.1 rfl (lv_room (Nat.le_of_ble_eq_true rfl)) dX13_isCast_118 ⟨Nat.le_of_ble_eq_true rfl, Nat.le_of_ble_eq_true rfl⟩) hS (fun q _ h => hFc q h) hFc ?_
                    clear hS
                    intro r_21 u t H1 locs ht hvm hw hB hz1 hk1 hS
                    obtain ⟨z_7, rfl⟩ : ∃ z, z = u := ⟨_, rfl⟩
                    obtain ⟨hP1, hK1, hD1⟩ := hB
                    rw [ht] at hP1
                    have hK1 := va_K.moved hvm.symm hK1
                    try dsimp only at hw
                    have hPD := va_join (wr := []) (w1 := [(h0, .inr (13, z_7)), (qf4, .inl (cf4, 3008, .inl f4)), (qf7, .inl (cf7, 3002, .inl f7))]) hP hD [0, 1, 2] [] rfl rfl (by decide) (by decide) hk1 hFc hP1 hD1
                    clear hP hD
                    obtain ⟨hP, hD⟩ := hPD
                    replace hK := (hK.sub (tys' := []) [] rfl).app hK1
                    clear hPc hDc hKc hFc hP1 hK1 hD1 hz1 hk1 ht hvm
                    generalize H1 = H at hP hS ⊢
                    replace hP : va_P (dC, dI) vwCl [(h0, .inr (13, z_7)), (qf4, .inl (cf4, 3008, .inl f4)), (qf7, .inl (cf7, 3002, .inl f7))] H := hP
                    replace hD : va_D A [(h0, .inr (13, z_7)), (qf4, .inl (cf4, 3008, .inl f4)), (qf7, .inl (cf7, 3002, .inl f7))] := hD
                    replace hK : va_K (dC, dI) vwCl [(cf4, .int), (cf7, .int)] s := hK
                    obtain ⟨hwa_7, hln_7, hre_7⟩ := hw
                    have hfk_7_4 : z_7[4]? = some (.ref qf4) := (hre_7 4 ).trans (hfk_6_4)
                    have hfk_7_7 : z_7[7]? = some (.ref qf7) := (hre_7 7 ).trans (hfk_6_7)
                    have hfk_7_23 : z_7[23]? = some (.int v23) := (hre_7 23 ).trans (hfk_6_23)
                    have hrq_7 : ∀ j : Nat, z_7[j]? = zs[j]? := fun j  => (hre_7 j ).trans (hrq_6 j )
                    obtain ⟨rfl, hz_7⟩ := hwa_7
                    rcases hz_7 with rfl | rfl
                    · rw [if_pos rfl] at hsp
                      refine lv_if_ne (tgt := 154) hx hb dX13_isCast_121 (by decide) (fun c_22 => (show False by revert c_22; decide).elim) (fun c_22 => ?_)
                      refine lv_aload_n hx hb dX13_isCast_124 rfl (lv_at hl 1 rfl) ?_
                      refine lv_iload_n hx hb dX13_isCast_125 rfl (lv_at hl 0 rfl) ?_
                      refine lv_bipush (v := 12) hx hb dX13_isCast_126 (by decide) ?_
                      obtain ⟨u8_0, hu_8, hsp⟩ := ox_bind hsp
                      try dsimp only at hsp
                      have hPc := hP.sub (ws' := [(h0, .inr (13, z_7)), (qf4, .inl (cf4, 3008, .inl f4)), (qf7, .inl (cf7, 3002, .inl f7))]) [0, 1, 2] rfl
                      have hDc := hD.sub (ws' := [(h0, .inr (13, z_7)), (qf4, .inl (cf4, 3008, .inl f4)), (qf7, .inl (cf7, 3002, .inl f7))]) [0, 1, 2] (by decide) rfl
                      have hKc := hK.sub (tys' := [(cf4, .int), (cf7, .int)]) [0, 1] rfl
                      have hFc := va_free (wc := [(h0, .inr (13, z_7)), (qf4, .inl (cf4, 3008, .inl f4)), (qf7, .inl (cf7, 3002, .inl f7))]) hD hS hA [0, 1, 2] rfl
                      refine va_calli (va_runV (As := [.int (v23 + 3), .int 12]) (rest := []) ⟨hx, hb, hml, hown, hts⟩ (tm_isWord l dC dI H.size h0 z_7 ((v23 + 3)) 12 qf4 qf7 cf4 f4 cf7 f7 nf u8_0 hln_7 hfk_7_4 hfk_7_7 hu_8) (cwV 2 hts gv_h9_8 rfl rfl rfl (by decide +kernel) ⟨Nat.le_of_ble_eq_true rfl, Nat.le_of_ble_eq_true rfl⟩) ⟨fun a U g mk q => by obtain ⟨q0, q1, qP, qK, qD⟩ := q; exact ⟨q0, q1, qP, va_K.moved (u := U) (U := U.calling g mk a) (Vm.Alike.refl U.vm) qK, qD⟩, va_recv hKc hPc (ci := 13) (q0 := 0) rfl rfl, fun U hU hW => ⟨rfl, by rw [hU], by rw [hU]; exact hPc, va_K.moved hW.alike hKc, hDc.weaken (fun _ _ _ _ => trivial)⟩⟩ rfl rfl hl.1 rfl (lv_room (Nat.le_of_ble_eq_true rfl)) dX13_isCast_128 ⟨Nat.le_of_ble_eq_true rfl, Nat.le_of_ble_eq_true rfl⟩) hS (fun q _ h => hFc q h) hFc ?_
                      clear hS
                      intro r_23 u t H1 locs ht hvm hw hB hz1 hk1 hS
                      obtain ⟨z_8, rfl⟩ : ∃ z, z = u := ⟨_, rfl⟩
                      obtain ⟨hP1, hK1, hD1⟩ := hB
                      rw [ht] at hP1
                      have hK1 := va_K.moved hvm.symm hK1
                      try dsimp only at hw
                      have hPD := va_join (wr := []) (w1 := [(h0, .inr (13, z_8)), (qf4, .inl (cf4, 3008, .inl f4)), (qf7, .inl (cf7, 3002, .inl f7))]) hP hD [0, 1, 2] [] rfl rfl (by decide) (by decide) hk1 hFc hP1 hD1
                      clear hP hD
                      obtain ⟨hP, hD⟩ := hPD
                      replace hK := (hK.sub (tys' := []) [] rfl).app hK1
                      clear hPc hDc hKc hFc hP1 hK1 hD1 hz1 hk1 ht hvm
                      generalize H1 = H at hP hS ⊢
                      replace hP : va_P (dC, dI) vwCl [(h0, .inr (13, z_8)), (qf4, .inl (cf4, 3008, .inl f4)), (qf7, .inl (cf7, 3002, .inl f7))] H := hP
                      replace hD : va_D A [(h0, .inr (13, z_8)), (qf4, .inl (cf4, 3008, .inl f4)), (qf7, .inl (cf7, 3002, .inl f7))] := hD
                      replace hK : va_K (dC, dI) vwCl [(cf4, .int), (cf7, .int)] s := hK
                      obtain ⟨hwa_8, hln_8, hre_8⟩ := hw
                      have hfk_8_4 : z_8[4]? = some (.ref qf4) := (hre_8 4 ).trans (hfk_7_4)
                      have hfk_8_7 : z_8[7]? = some (.ref qf7) := (hre_8 7 ).trans (hfk_7_7)
                      have hfk_8_23 : z_8[23]? = some (.int v23) := (hre_8 23 ).trans (hfk_7_23)
                      have hrq_8 : ∀ j : Nat, z_8[j]? = zs[j]? := fun j  => (hre_8 j ).trans (hrq_7 j )
                      obtain ⟨rfl, hz_8⟩ := hwa_8
                      rcases hz_8 with rfl | rfl
                      · rw [if_pos rfl] at hsp
                        refine lv_if_ne (tgt := 154) hx hb dX13_isCast_131 (by decide) (fun c_24 => (show False by revert c_24; decide).elim) (fun c_24 => ?_)
                        refine lv_aload_n hx hb dX13_isCast_134 rfl (lv_at hl 1 rfl) ?_
                        refine lv_iload_n hx hb dX13_isCast_135 rfl (lv_at hl 0 rfl) ?_
                        refine lv_bipush (v := 18) hx hb dX13_isCast_136 (by decide) ?_
                        obtain ⟨u9_0, hu_9, hsp⟩ := ox_bind hsp
                        try dsimp only at hsp
                        have hPc := hP.sub (ws' := [(h0, .inr (13, z_8)), (qf4, .inl (cf4, 3008, .inl f4)), (qf7, .inl (cf7, 3002, .inl f7))]) [0, 1, 2] rfl
                        have hDc := hD.sub (ws' := [(h0, .inr (13, z_8)), (qf4, .inl (cf4, 3008, .inl f4)), (qf7, .inl (cf7, 3002, .inl f7))]) [0, 1, 2] (by decide) rfl
                        have hKc := hK.sub (tys' := [(cf4, .int), (cf7, .int)]) [0, 1] rfl
                        have hFc := va_free (wc := [(h0, .inr (13, z_8)), (qf4, .inl (cf4, 3008, .inl f4)), (qf7, .inl (cf7, 3002, .inl f7))]) hD hS hA [0, 1, 2] rfl
                        refine va_calli (va_runV (As := [.int (v23 + 3), .int 18]) (rest := []) ⟨hx, hb, hml, hown, hts⟩ (tm_isWord l dC dI H.size h0 z_8 ((v23 + 3)) 18 qf4 qf7 cf4 f4 cf7 f7 nf u9_0 hln_8 hfk_8_4 hfk_8_7 hu_9) (cwV 2 hts gv_h9_8 rfl rfl rfl (by decide +kernel) ⟨Nat.le_of_ble_eq_true rfl, Nat.le_of_ble_eq_true rfl⟩) ⟨fun a U g mk q => by obtain ⟨q0, q1, qP, qK, qD⟩ := q; exact ⟨q0, q1, qP, va_K.moved (u := U) (U := U.calling g mk a) (Vm.Alike.refl U.vm) qK, qD⟩, va_recv hKc hPc (ci := 13) (q0 := 0) rfl rfl, fun U hU hW => ⟨rfl, by rw [hU], by rw [hU]; exact hPc, va_K.moved hW.alike hKc, hDc.weaken (fun _ _ _ _ => trivial)⟩⟩ rfl rfl hl.1 rfl (lv_room (Nat.le_of_ble_eq_true rfl)) dX13_isCast_138 ⟨Nat.le_of_ble_eq_true rfl, Nat.le_of_ble_eq_true rfl⟩) hS (fun q _ h => hFc q h) hFc ?_
                        clear hS
                        intro r_25 u t H1 locs ht hvm hw hB hz1 hk1 hS
                        obtain ⟨z_9, rfl⟩ : ∃ z, z = u := ⟨_, rfl⟩
                        obtain ⟨hP1, hK1, hD1⟩ := hB
                        rw [ht] at hP1
                        have hK1 := va_K.moved hvm.symm hK1
                        try dsimp only at hw
                        have hPD := va_join (wr := []) (w1 := [(h0, .inr (13, z_9)), (qf4, .inl (cf4, 3008, .inl f4)), (qf7, .inl (cf7, 3002, .inl f7))]) hP hD [0, 1, 2] [] rfl rfl (by decide) (by decide) hk1 hFc hP1 hD1
                        clear hP hD
                        obtain ⟨hP, hD⟩ := hPD
                        replace hK := (hK.sub (tys' := []) [] rfl).app hK1
                        clear hPc hDc hKc hFc hP1 hK1 hD1 hz1 hk1 ht hvm
                        generalize H1 = H at hP hS ⊢
                        replace hP : va_P (dC, dI) vwCl [(h0, .inr (13, z_9)), (qf4, .inl (cf4, 3008, .inl f4)), (qf7, .inl (cf7, 3002, .inl f7))] H := hP
                        replace hD : va_D A [(h0, .inr (13, z_9)), (qf4, .inl (cf4, 3008, .inl f4)), (qf7, .inl (cf7, 3002, .inl f7))] := hD
                        replace hK : va_K (dC, dI) vwCl [(cf4, .int), (cf7, .int)] s := hK
                        obtain ⟨hwa_9, hln_9, hre_9⟩ := hw
                        have hfk_9_4 : z_9[4]? = some (.ref qf4) := (hre_9 4 ).trans (hfk_8_4)
                        have hfk_9_7 : z_9[7]? = some (.ref qf7) := (hre_9 7 ).trans (hfk_8_7)
                        have hfk_9_23 : z_9[23]? = some (.int v23) := (hre_9 23 ).trans (hfk_8_23)
                        have hrq_9 : ∀ j : Nat, z_9[j]? = zs[j]? := fun j  => (hre_9 j ).trans (hrq_8 j )
                        obtain ⟨rfl, hz_9⟩ := hwa_9
                        rcases hz_9 with rfl | rfl
                        · rw [if_pos rfl] at hsp
                          refine lv_if_ne (tgt := 154) hx hb dX13_isCast_141 (by decide) (fun c_26 => (show False by revert c_26; decide).elim) (fun c_26 => ?_)
                          refine lv_aload_n hx hb dX13_isCast_144 rfl (lv_at hl 1 rfl) ?_
                          refine lv_iload_n hx hb dX13_isCast_145 rfl (lv_at hl 0 rfl) ?_
                          refine lv_bipush (v := 7) hx hb dX13_isCast_146 (by decide) ?_
                          obtain ⟨u10_0, hu_10, hsp⟩ := ox_bind hsp
                          try dsimp only at hsp
                          have hPc := hP.sub (ws' := [(h0, .inr (13, z_9)), (qf4, .inl (cf4, 3008, .inl f4)), (qf7, .inl (cf7, 3002, .inl f7))]) [0, 1, 2] rfl
                          have hDc := hD.sub (ws' := [(h0, .inr (13, z_9)), (qf4, .inl (cf4, 3008, .inl f4)), (qf7, .inl (cf7, 3002, .inl f7))]) [0, 1, 2] (by decide) rfl
                          have hKc := hK.sub (tys' := [(cf4, .int), (cf7, .int)]) [0, 1] rfl
                          have hFc := va_free (wc := [(h0, .inr (13, z_9)), (qf4, .inl (cf4, 3008, .inl f4)), (qf7, .inl (cf7, 3002, .inl f7))]) hD hS hA [0, 1, 2] rfl
                          refine va_calli (va_runV (As := [.int (v23 + 3), .int 7]) (rest := []) ⟨hx, hb, hml, hown, hts⟩ (tm_isWord l dC dI H.size h0 z_9 ((v23 + 3)) 7 qf4 qf7 cf4 f4 cf7 f7 nf u10_0 hln_9 hfk_9_4 hfk_9_7 hu_10) (cwV 2 hts gv_h9_8 rfl rfl rfl (by decide +kernel) ⟨Nat.le_of_ble_eq_true rfl, Nat.le_of_ble_eq_true rfl⟩) ⟨fun a U g mk q => by obtain ⟨q0, q1, qP, qK, qD⟩ := q; exact ⟨q0, q1, qP, va_K.moved (u := U) (U := U.calling g mk a) (Vm.Alike.refl U.vm) qK, qD⟩, va_recv hKc hPc (ci := 13) (q0 := 0) rfl rfl, fun U hU hW => ⟨rfl, by rw [hU], by rw [hU]; exact hPc, va_K.moved hW.alike hKc, hDc.weaken (fun _ _ _ _ => trivial)⟩⟩ rfl rfl hl.1 rfl (lv_room (Nat.le_of_ble_eq_true rfl)) dX13_isCast_148 ⟨Nat.le_of_ble_eq_true rfl, Nat.le_of_ble_eq_true rfl⟩) hS (fun q _ h => hFc q h) hFc ?_
                          clear hS
                          intro r_27 u t H1 locs ht hvm hw hB hz1 hk1 hS
                          obtain ⟨z_10, rfl⟩ : ∃ z, z = u := ⟨_, rfl⟩
                          obtain ⟨hP1, hK1, hD1⟩ := hB
                          rw [ht] at hP1
                          have hK1 := va_K.moved hvm.symm hK1
                          try dsimp only at hw
                          have hPD := va_join (wr := []) (w1 := [(h0, .inr (13, z_10)), (qf4, .inl (cf4, 3008, .inl f4)), (qf7, .inl (cf7, 3002, .inl f7))]) hP hD [0, 1, 2] [] rfl rfl (by decide) (by decide) hk1 hFc hP1 hD1
                          clear hP hD
                          obtain ⟨hP, hD⟩ := hPD
                          replace hK := (hK.sub (tys' := []) [] rfl).app hK1
                          clear hPc hDc hKc hFc hP1 hK1 hD1 hz1 hk1 ht hvm
                          generalize H1 = H at hP hS ⊢
                          replace hP : va_P (dC, dI) vwCl [(h0, .inr (13, z_10)), (qf4, .inl (cf4, 3008, .inl f4)), (qf7, .inl (cf7, 3002, .inl f7))] H := hP
                          replace hD : va_D A [(h0, .inr (13, z_10)), (qf4, .inl (cf4, 3008, .inl f4)), (qf7, .inl (cf7, 3002, .inl f7))] := hD
                          replace hK : va_K (dC, dI) vwCl [(cf4, .int), (cf7, .int)] s := hK
                          obtain ⟨hwa_10, hln_10, hre_10⟩ := hw
                          have hfk_10_4 : z_10[4]? = some (.ref qf4) := (hre_10 4 ).trans (hfk_9_4)
                          have hfk_10_7 : z_10[7]? = some (.ref qf7) := (hre_10 7 ).trans (hfk_9_7)
                          have hfk_10_23 : z_10[23]? = some (.int v23) := (hre_10 23 ).trans (hfk_9_23)
                          have hrq_10 : ∀ j : Nat, z_10[j]? = zs[j]? := fun j  => (hre_10 j ).trans (hrq_9 j )
                          obtain ⟨rfl, hz_10⟩ := hwa_10
                          rcases hz_10 with rfl | rfl
                          · rw [if_pos rfl] at hsp
                            refine lv_if_eq (tgt := 158) hx hb dX13_isCast_151 (by decide) (fun c_28 => ?_) (fun c_28 => (show False by revert c_28; decide).elim)
                            refine lv_iconst (v := 0) hx hb dX13_isCast_158 (by decide) ?_
                            have hr0 := Option.some.inj hsp
                            clear hsp
                            subst hr0
                            have hP9 := hP.sub (ws' := [(h0, .inr (13, z_10)), (qf4, .inl (cf4, 3008, .inl f4)), (qf7, .inl (cf7, 3002, .inl f7))]) [0, 1, 2] rfl
                            have hD9 := hD.sub (ws' := [(h0, .inr (13, z_10)), (qf4, .inl (cf4, 3008, .inl f4)), (qf7, .inl (cf7, 3002, .inl f7))]) [0, 1, 2] (by decide) rfl
                            have hK9 := hK.sub (tys' := [(cf4, .int), (cf7, .int)]) [0, 1] rfl
                            exact W.zret hx hb hr (by decide) (fun t ht hW => ⟨⟨(0), (z_10), rfl, ⟨⟨rfl, Or.inl rfl⟩, hln_10, hrq_10⟩, by rw [ht]; exact hP9, va_K.moved hW.alike hK9, hD9⟩, hS.F ht⟩) hS.2.2 dX13_isCast_159
                          · rw [if_neg (by decide)] at hsp
                            refine lv_if_eq (tgt := 158) hx hb dX13_isCast_151 (by decide) (fun c_29 => (show False by revert c_29; decide).elim) (fun c_29 => ?_)
                            refine lv_iconst (v := 1) hx hb dX13_isCast_154 (by decide) ?_
                            refine lv_goto (tgt := 159) hx hb dX13_isCast_155 (by decide) ?_
                            have hr0 := Option.some.inj hsp
                            clear hsp
                            subst hr0
                            have hP9 := hP.sub (ws' := [(h0, .inr (13, z_10)), (qf4, .inl (cf4, 3008, .inl f4)), (qf7, .inl (cf7, 3002, .inl f7))]) [0, 1, 2] rfl
                            have hD9 := hD.sub (ws' := [(h0, .inr (13, z_10)), (qf4, .inl (cf4, 3008, .inl f4)), (qf7, .inl (cf7, 3002, .inl f7))]) [0, 1, 2] (by decide) rfl
                            have hK9 := hK.sub (tys' := [(cf4, .int), (cf7, .int)]) [0, 1] rfl
                            exact W.zret hx hb hr (by decide) (fun t ht hW => ⟨⟨(1), (z_10), rfl, ⟨⟨rfl, Or.inr rfl⟩, hln_10, hrq_10⟩, by rw [ht]; exact hP9, va_K.moved hW.alike hK9, hD9⟩, hS.F ht⟩) hS.2.2 dX13_isCast_159
                        · rw [if_neg (by decide)] at hsp
                          refine lv_if_ne (tgt := 154) hx hb dX13_isCast_141 (by decide) (fun c_30 => ?_) (fun c_30 => (show False by revert c_30; decide).elim)
                          refine lv_iconst (v := 1) hx hb dX13_isCast_154 (by decide) ?_
                          refine lv_goto (tgt := 159) hx hb dX13_isCast_155 (by decide) ?_
                          have hr0 := Option.some.inj hsp
                          clear hsp
                          subst hr0
                          have hP9 := hP.sub (ws' := [(h0, .inr (13, z_9)), (qf4, .inl (cf4, 3008, .inl f4)), (qf7, .inl (cf7, 3002, .inl f7))]) [0, 1, 2] rfl
                          have hD9 := hD.sub (ws' := [(h0, .inr (13, z_9)), (qf4, .inl (cf4, 3008, .inl f4)), (qf7, .inl (cf7, 3002, .inl f7))]) [0, 1, 2] (by decide) rfl
                          have hK9 := hK.sub (tys' := [(cf4, .int), (cf7, .int)]) [0, 1] rfl
                          exact W.zret hx hb hr (by decide) (fun t ht hW => ⟨⟨(1), (z_9), rfl, ⟨⟨rfl, Or.inr rfl⟩, hln_9, hrq_9⟩, by rw [ht]; exact hP9, va_K.moved hW.alike hK9, hD9⟩, hS.F ht⟩) hS.2.2 dX13_isCast_159
                      · rw [if_neg (by decide)] at hsp
                        refine lv_if_ne (tgt := 154) hx hb dX13_isCast_131 (by decide) (fun c_31 => ?_) (fun c_31 => (show False by revert c_31; decide).elim)
                        refine lv_iconst (v := 1) hx hb dX13_isCast_154 (by decide) ?_
                        refine lv_goto (tgt := 159) hx hb dX13_isCast_155 (by decide) ?_
                        have hr0 := Option.some.inj hsp
                        clear hsp
                        subst hr0
                        have hP9 := hP.sub (ws' := [(h0, .inr (13, z_8)), (qf4, .inl (cf4, 3008, .inl f4)), (qf7, .inl (cf7, 3002, .inl f7))]) [0, 1, 2] rfl
                        have hD9 := hD.sub (ws' := [(h0, .inr (13, z_8)), (qf4, .inl (cf4, 3008, .inl f4)), (qf7, .inl (cf7, 3002, .inl f7))]) [0, 1, 2] (by decide) rfl
                        have hK9 := hK.sub (tys' := [(cf4, .int), (cf7, .int)]) [0, 1] rfl
                        exact W.zret hx hb hr (by decide) (fun t ht hW => ⟨⟨(1), (z_8), rfl, ⟨⟨rfl, Or.inr rfl⟩, hln_8, hrq_8⟩, by rw [ht]; exact hP9, va_K.moved hW.alike hK9, hD9⟩, hS.F ht⟩) hS.2.2 dX13_isCast_159
                    · rw [if_neg (by decide)] at hsp
                      refine lv_if_ne (tgt := 154) hx hb dX13_isCast_121 (by decide) (fun c_32 => ?_) (fun c_32 => (show False by revert c_32; decide).elim)
                      refine lv_iconst (v := 1) hx hb dX13_isCast_154 (by decide) ?_
                      refine lv_goto (tgt := 159) hx hb dX13_isCast_155 (by decide) ?_
                      have hr0 := Option.some.inj hsp
                      clear hsp
                      subst hr0
                      have hP9 := hP.sub (ws' := [(h0, .inr (13, z_7)), (qf4, .inl (cf4, 3008, .inl f4)), (qf7, .inl (cf7, 3002, .inl f7))]) [0, 1, 2] rfl
                      have hD9 := hD.sub (ws' := [(h0, .inr (13, z_7)), (qf4, .inl (cf4, 3008, .inl f4)), (qf7, .inl (cf7, 3002, .inl f7))]) [0, 1, 2] (by decide) rfl
                      have hK9 := hK.sub (tys' := [(cf4, .int), (cf7, .int)]) [0, 1] rfl
                      exact W.zret hx hb hr (by decide) (fun t ht hW => ⟨⟨(1), (z_7), rfl, ⟨⟨rfl, Or.inr rfl⟩, hln_7, hrq_7⟩, by rw [ht]; exact hP9, va_K.moved hW.alike hK9, hD9⟩, hS.F ht⟩) hS.2.2 dX13_isCast_159
                  · rw [if_neg (by decide)] at hsp
                    refine lv_if_ne (tgt := 154) hx hb dX13_isCast_111 (by decide) (fun c_33 => ?_) (fun c_33 => (show False by revert c_33; decide).elim)
                    refine lv_iconst (v := 1) hx hb dX13_isCast_154 (by decide) ?_
                    refine lv_goto (tgt := 159) hx hb dX13_isCast_155 (by decide) ?_
                    have hr0 := Option.some.inj hsp
                    clear hsp
                    subst hr0
                    have hP9 := hP.sub (ws' := [(h0, .inr (13, z_6)), (qf4, .inl (cf4, 3008, .inl f4)), (qf7, .inl (cf7, 3002, .inl f7))]) [0, 1, 2] rfl
                    have hD9 := hD.sub (ws' := [(h0, .inr (13, z_6)), (qf4, .inl (cf4, 3008, .inl f4)), (qf7, .inl (cf7, 3002, .inl f7))]) [0, 1, 2] (by decide) rfl
                    have hK9 := hK.sub (tys' := [(cf4, .int), (cf7, .int)]) [0, 1] rfl
                    exact W.zret hx hb hr (by decide) (fun t ht hW => ⟨⟨(1), (z_6), rfl, ⟨⟨rfl, Or.inr rfl⟩, hln_6, hrq_6⟩, by rw [ht]; exact hP9, va_K.moved hW.alike hK9, hD9⟩, hS.F ht⟩) hS.2.2 dX13_isCast_159
                · rw [if_neg (by decide)] at hsp
                  refine lv_if_ne (tgt := 154) hx hb dX13_isCast_101 (by decide) (fun c_34 => ?_) (fun c_34 => (show False by revert c_34; decide).elim)
                  refine lv_iconst (v := 1) hx hb dX13_isCast_154 (by decide) ?_
                  refine lv_goto (tgt := 159) hx hb dX13_isCast_155 (by decide) ?_
                  have hr0 := Option.some.inj hsp
                  clear hsp
                  subst hr0
                  have hP9 := hP.sub (ws' := [(h0, .inr (13, z_5)), (qf4, .inl (cf4, 3008, .inl f4)), (qf7, .inl (cf7, 3002, .inl f7))]) [0, 1, 2] rfl
                  have hD9 := hD.sub (ws' := [(h0, .inr (13, z_5)), (qf4, .inl (cf4, 3008, .inl f4)), (qf7, .inl (cf7, 3002, .inl f7))]) [0, 1, 2] (by decide) rfl
                  have hK9 := hK.sub (tys' := [(cf4, .int), (cf7, .int)]) [0, 1] rfl
                  exact W.zret hx hb hr (by decide) (fun t ht hW => ⟨⟨(1), (z_5), rfl, ⟨⟨rfl, Or.inr rfl⟩, hln_5, hrq_5⟩, by rw [ht]; exact hP9, va_K.moved hW.alike hK9, hD9⟩, hS.F ht⟩) hS.2.2 dX13_isCast_159
              · rw [if_neg (by decide)] at hsp
                refine lv_if_ne (tgt := 154) hx hb dX13_isCast_91 (by decide) (fun c_35 => ?_) (fun c_35 => (show False by revert c_35; decide).elim)
                refine lv_iconst (v := 1) hx hb dX13_isCast_154 (by decide) ?_
                refine lv_goto (tgt := 159) hx hb dX13_isCast_155 (by decide) ?_
                have hr0 := Option.some.inj hsp
                clear hsp
                subst hr0
                have hP9 := hP.sub (ws' := [(h0, .inr (13, z_4)), (qf4, .inl (cf4, 3008, .inl f4)), (qf7, .inl (cf7, 3002, .inl f7))]) [0, 1, 2] rfl
                have hD9 := hD.sub (ws' := [(h0, .inr (13, z_4)), (qf4, .inl (cf4, 3008, .inl f4)), (qf7, .inl (cf7, 3002, .inl f7))]) [0, 1, 2] (by decide) rfl
                have hK9 := hK.sub (tys' := [(cf4, .int), (cf7, .int)]) [0, 1] rfl
                exact W.zret hx hb hr (by decide) (fun t ht hW => ⟨⟨(1), (z_4), rfl, ⟨⟨rfl, Or.inr rfl⟩, hln_4, hrq_4⟩, by rw [ht]; exact hP9, va_K.moved hW.alike hK9, hD9⟩, hS.F ht⟩) hS.2.2 dX13_isCast_159
            · rw [if_neg (by decide)] at hsp
              refine lv_if_ne (tgt := 154) hx hb dX13_isCast_81 (by decide) (fun c_36 => ?_) (fun c_36 => (show False by revert c_36; decide).elim)
              refine lv_iconst (v := 1) hx hb dX13_isCast_154 (by decide) ?_
              refine lv_goto (tgt := 159) hx hb dX13_isCast_155 (by decide) ?_
              have hr0 := Option.some.inj hsp
              clear hsp
              subst hr0
              have hP9 := hP.sub (ws' := [(h0, .inr (13, z_3)), (qf4, .inl (cf4, 3008, .inl f4)), (qf7, .inl (cf7, 3002, .inl f7))]) [0, 1, 2] rfl
              have hD9 := hD.sub (ws' := [(h0, .inr (13, z_3)), (qf4, .inl (cf4, 3008, .inl f4)), (qf7, .inl (cf7, 3002, .inl f7))]) [0, 1, 2] (by decide) rfl
              have hK9 := hK.sub (tys' := [(cf4, .int), (cf7, .int)]) [0, 1] rfl
              exact W.zret hx hb hr (by decide) (fun t ht hW => ⟨⟨(1), (z_3), rfl, ⟨⟨rfl, Or.inr rfl⟩, hln_3, hrq_3⟩, by rw [ht]; exact hP9, va_K.moved hW.alike hK9, hD9⟩, hS.F ht⟩) hS.2.2 dX13_isCast_159
          · rw [if_pos c_12] at hsp
            refine lv_iconst (v := 1) hx hb dX13_isCast_72 (by decide) ?_
            have hr0 := Option.some.inj hsp
            clear hsp
            subst hr0
            have hP9 := hP.sub (ws' := [(h0, .inr (13, z_2)), (qf4, .inl (cf4, 3008, .inl f4)), (qf7, .inl (cf7, 3002, .inl f7))]) [0, 1, 2] rfl
            have hD9 := hD.sub (ws' := [(h0, .inr (13, z_2)), (qf4, .inl (cf4, 3008, .inl f4)), (qf7, .inl (cf7, 3002, .inl f7))]) [0, 1, 2] (by decide) rfl
            have hK9 := hK.sub (tys' := [(cf4, .int), (cf7, .int)]) [0, 1] rfl
            exact W.zret hx hb hr (by decide) (fun t ht hW => ⟨⟨(1), (z_2), rfl, ⟨⟨rfl, Or.inr rfl⟩, hln_2, hrq_2⟩, by rw [ht]; exact hP9, va_K.moved hW.alike hK9, hD9⟩, hS.F ht⟩) hS.2.2 dX13_isCast_73
def lp_vm_classOf_28 (nf n : Nat) (a1 : Int32) (v24 : Int32) (f5 : Nat → Int32) (f6 : Nat → Int32) (f2 : Nat → Int32) (f25 : Nat → Int32) (nS477 : Nat) (fS477 : Nat → Int32)  (l1_28 : Int32) (l3_28 : Int32) : Option (Int32) := match n with
  | 0 => none
  | n + 1 => (if v24 ≤ l3_28 then (some (-1)) else (if l3_28 < 0 then none else if 400 ≤ (l3_28 : Int32).toNatClampNeg then none else ((sp_tn_isLike nf (f25 (l3_28 : Int32).toNatClampNeg) l1_28 f6 f5 f2).bind (fun p1 => (if p1 = 0 then (lp_vm_classOf_28 nf n a1 v24 f5 f6 f2 f25 nS477 fS477 l1_28 (l3_28 + 1)) else (some (8 + l3_28)))))))
def sp_vm_classOf (nf : Nat) (a1 : Int32) (v24 : Int32) (f5 : Nat → Int32) (f6 : Nat → Int32) (f2 : Nat → Int32) (f25 : Nat → Int32) (nS477 : Nat) (fS477 : Nat → Int32) : Option (Int32) := (if a1 < 0 then none else if 3002 ≤ (a1 : Int32).toNatClampNeg then none else (if a1 < 0 then none else if 3002 ≤ (a1 : Int32).toNatClampNeg then none else ((sp_vm_among nf (f5 (a1 : Int32).toNatClampNeg) (f6 (a1 : Int32).toNatClampNeg) f2 nS477 fS477).bind (fun p1 => (if p1 < 0 then (lp_vm_classOf_28 nf nf a1 v24 f5 f6 f2 f25 nS477 fS477  a1 0) else (some p1))))))
