set_option maxHeartbeats 4000000 in
set_option maxRecDepth 100000 in
/-- ClassMillModel.fits -/
theorem tn_fits (l : Launch) (dC : Nat → ClassId) (dI : Nat → Nat → Nat) (sz : Nat) (h0 : Nat) (zs : (List Value)) (a1 : Int32) (a2 : Int32) (qf27 : Nat) (cf27 : ClassId) (f27 : (Nat → Int32)) (nf : Nat) (r0 : Int32) (hlen : zs.length = 155) (hf27 : zs[27]? = some (.ref qf27)) (hsp : sp_tn_fits nf a1 a2 f27 = some r0) : Met l yX13_fits (.code yX13_fits cX13_fits 3 (some .boolean) :: VS_h6) ({ frames := 2, cells := 0, slots := 0, locals := 44 }) (va_Pc [.ref h0, .int a1, .int a2] (fun U => U.heap.size = sz ∧ va_P (dC, dI) vwCl [(h0, .inr (13, zs)), (qf27, .inl (cf27, 400, .inl f27))] U.heap ∧ va_K (dC, dI) vwCl [(cf27, .int)] U ∧ va_D (fun _ => True) [(h0, .inr (13, zs)), (qf27, .inl (cf27, 400, .inl f27))])) (va_Qi (fun (r : Int32) (u : (List Value)) => match u with | (zo1) => (r0 = r ∧ (r0 = 0 ∨ r0 = 1)) ∧ zo1.length = 155 ∧ (∀ j : Nat, zo1[j]? = zs[j]?)) (fun (u : (List Value)) (t : State) => match u with | (zo1) => va_P (dC, dI) vwCl [(h0, .inr (13, zo1)), (qf27, .inl (cf27, 400, .inl f27))] t.heap ∧ va_K (dC, dI) vwCl [(cf27, .int)] t ∧ va_D (va_A [(h0, .inr (13, zs)), (qf27, .inl (cf27, 400, .inl f27))] sz) [(h0, .inr (13, zo1)), (qf27, .inl (cf27, 400, .inl f27))]) (va_A [(h0, .inr (13, zs)), (qf27, .inl (cf27, 400, .inl f27))] sz)) 0 0 (va_A [(h0, .inr (13, zs)), (qf27, .inl (cf27, 400, .inl f27))] sz) := by
  refine Met.ofW (cc := cX13_fits) (maxL := 3) (ret := (some .boolean)) (by decide) rfl ?_
  intro p e s m args below meth c s₁ B hml hv
  obtain ⟨rfl, hsz, hP, hK, hD0⟩ := hv
  have hx := B.exec
  have hb := B.bytes
  have hr := B.returns
  have hts := atoms_spec (ws := (.code yX13_fits cX13_fits 3 (some .boolean) :: VS_h6)) B.pre
  replace hts := fun w (h : w ∈ VS_h6) => hts w (List.mem_cons_of_mem _ h)
  have hown : s.vm.findClass RX13 = some m.cls := findClass_of_methodNamed B.named
  have hlocks := B.notSynchronized
  subst hsz
  have hD := hD0.self (sz := s.heap.size)
  generalize hAe : va_A [(h0, .inr (13, zs)), (qf27, .inl (cf27, 400, .inl f27))] s.heap.size = A at hD  ⊢
  have hA : ∀ q : Nat, s.heap.size ≤ q → A q := fun q h => by rw [← hAe]; exact Or.inr h
  have hP : va_P (dC, dI) vwCl [(h0, .inr (13, zs)), (qf27, .inl (cf27, 400, .inl f27))] s.heap := hP
  have hl := lv_entry ([.ref h0, .int a1, .int a2]) (n := 3) (Nat.le_of_ble_eq_true rfl)
  rw [lg_entry_eq]
  generalize (lg_sl ([.ref h0, .int a1, .int a2]) ++ List.replicate (3 - (lg_sl ([.ref h0, .int a1, .int a2])).length) Slot.unset).toArray = ls at hl ⊢
  have hl : lv_has ls 3 [(0, .ref h0), (1, .int a1), (2, .int a2)] := hl
  obtain ⟨H, hH⟩ : ∃ H : Heap, s.heap = H := ⟨_, rfl⟩
  rw [hH] at hP ⊢
  have hS : va_S A s.heap H [] := by rw [← hH]; exact va_S.rf
  obtain ⟨locs, hlo⟩ : ∃ locs : List Loc, locs = [] := ⟨_, rfl⟩
  rw [← hlo] at hS ⊢
  have hrs0 : ∀ j : Nat, zs[j]? = zs[j]? := fun _  => rfl
  unfold sp_tn_fits at hsp
  refine lv_iload_n hx hb dX13_fits_0 rfl (lv_at hl 1 rfl) ?_
  refine lv_iload_n hx hb dX13_fits_1 rfl (lv_at hl 2 rfl) ?_
  refine lv_icmp_ne (tgt := 7) hx hb dX13_fits_2 (by decide) (fun c_1 => ?_) (fun c_1 => ?_)
  · rw [if_neg c_1] at hsp
    refine lv_iload_n hx hb dX13_fits_7 rfl (lv_at hl 1 rfl) ?_
    refine lv_iconst (v := 2) hx hb dX13_fits_8 (by decide) ?_
    refine lv_icmp_ne (tgt := 29) hx hb dX13_fits_9 (by decide) (fun c_2 => ?_) (fun c_2 => ?_)
    · rw [if_neg c_2] at hsp
      refine lv_iload_n hx hb dX13_fits_29 rfl (lv_at hl 1 rfl) ?_
      obtain ⟨u1_0, hu_1, hsp⟩ := ox_bind hsp
      try dsimp only at hsp
      have hPc := hP.sub (ws' := []) [] rfl
      have hDc := hD.sub (ws' := []) [] (by decide) rfl
      have hKc := hK.sub (tys' := []) [] rfl
      have hFc := va_free (wc := []) hD hS hA [] rfl
      refine va_calli (va_runS (As := [.int a1]) (rest := []) ⟨hx, hb, hml, hown, hts⟩ (tm_isArray l dC dI H.size a1 nf u1_0 hu_1) (va_cwS 1 hts gv_h6_4 rfl rfl rfl (by decide +kernel) ⟨Nat.le_of_ble_eq_true rfl, Nat.le_of_ble_eq_true rfl⟩) ⟨fun a U g mk q => by obtain ⟨q0, q1, qP, qK, qD⟩ := q; exact ⟨q0, q1, qP, va_K.moved (u := U) (U := U.calling g mk a) (Vm.Alike.refl U.vm) qK, qD⟩, fun U hU hW => ⟨rfl, by rw [hU], by rw [hU]; exact hPc, va_K.moved hW.alike hKc, hDc.weaken (fun _ _ _ _ => trivial)⟩⟩ rfl rfl hl.1 rfl (lv_room (Nat.le_of_ble_eq_true rfl)) dX13_fits_30 ⟨Nat.le_of_ble_eq_true rfl, Nat.le_of_ble_eq_true rfl⟩) hS (fun q _ h => hFc q h) hFc ?_
      clear hS
      intro r_3 u t H1 locs ht hvm hw hB hz1 hk1 hS
      obtain ⟨⟩ := u
      obtain ⟨hP1, hK1, hD1⟩ := hB
      rw [ht] at hP1
      have hK1 := va_K.moved hvm.symm hK1
      try dsimp only at hw
      have hPD := va_join (wr := [(h0, .inr (13, zs)), (qf27, .inl (cf27, 400, .inl f27))]) (w1 := []) hP hD [] [0, 1] rfl rfl (by decide) (by decide) hk1 hFc hP1 hD1
      clear hP hD
      obtain ⟨hP, hD⟩ := hPD
      replace hK := (hK.sub (tys' := [(cf27, .int)]) [0] rfl).app hK1
      clear hPc hDc hKc hFc hP1 hK1 hD1 hz1 hk1 ht hvm
      generalize H1 = H at hP hS ⊢
      replace hP : va_P (dC, dI) vwCl [(h0, .inr (13, zs)), (qf27, .inl (cf27, 400, .inl f27))] H := hP
      replace hD : va_D A [(h0, .inr (13, zs)), (qf27, .inl (cf27, 400, .inl f27))] := hD
      replace hK : va_K (dC, dI) vwCl [(cf27, .int)] s := hK
      obtain ⟨rfl, hz_1⟩ := hw
      rcases hz_1 with rfl | rfl
      · rw [if_pos rfl] at hsp
        refine lv_if_eq (tgt := 44) hx hb dX13_fits_33 (by decide) (fun c_4 => ?_) (fun c_4 => (show False by revert c_4; decide).elim)
        refine lv_iload_n hx hb dX13_fits_44 rfl (lv_at hl 1 rfl) ?_
        refine lv_bipush (v := 8) hx hb dX13_fits_45 (by decide) ?_
        refine lv_icmp_lt (tgt := 88) hx hb dX13_fits_47 (by decide) (fun c_5 => ?_) (fun c_5 => ?_)
        · rw [if_pos c_5] at hsp
          refine lv_iconst (v := 0) hx hb dX13_fits_88 (by decide) ?_
          have hr0 := Option.some.inj hsp
          clear hsp
          subst hr0
          have hP9 := hP.sub (ws' := [(h0, .inr (13, zs)), (qf27, .inl (cf27, 400, .inl f27))]) [0, 1] rfl
          have hD9 := hD.sub (ws' := [(h0, .inr (13, zs)), (qf27, .inl (cf27, 400, .inl f27))]) [0, 1] (by decide) rfl
          have hK9 := hK.sub (tys' := [(cf27, .int)]) [0] rfl
          exact W.zret hx hb hr (by decide) (fun t ht hW => ⟨⟨(0), (zs), rfl, ⟨⟨rfl, Or.inl rfl⟩, hlen, hrs0⟩, by rw [ht]; exact hP9, va_K.moved hW.alike hK9, hD9⟩, hS.F ht⟩) hS.2.2 dX13_fits_89
        · rw [if_neg c_5] at hsp
          refine lv_iload_n hx hb dX13_fits_50 rfl (lv_at hl 2 rfl) ?_
          refine lv_bipush (v := 8) hx hb dX13_fits_51 (by decide) ?_
          refine lv_icmp_lt (tgt := 88) hx hb dX13_fits_53 (by decide) (fun c_6 => ?_) (fun c_6 => ?_)
          · rw [if_pos c_6] at hsp
            refine lv_iconst (v := 0) hx hb dX13_fits_88 (by decide) ?_
            have hr0 := Option.some.inj hsp
            clear hsp
            subst hr0
            have hP9 := hP.sub (ws' := [(h0, .inr (13, zs)), (qf27, .inl (cf27, 400, .inl f27))]) [0, 1] rfl
            have hD9 := hD.sub (ws' := [(h0, .inr (13, zs)), (qf27, .inl (cf27, 400, .inl f27))]) [0, 1] (by decide) rfl
            have hK9 := hK.sub (tys' := [(cf27, .int)]) [0] rfl
            exact W.zret hx hb hr (by decide) (fun t ht hW => ⟨⟨(0), (zs), rfl, ⟨⟨rfl, Or.inl rfl⟩, hlen, hrs0⟩, by rw [ht]; exact hP9, va_K.moved hW.alike hK9, hD9⟩, hS.F ht⟩) hS.2.2 dX13_fits_89
          · rw [if_neg c_6] at hsp
            refine lv_iload_n hx hb dX13_fits_56 rfl (lv_at hl 1 rfl) ?_
            refine lv_iconst (v := 2) hx hb dX13_fits_57 (by decide) ?_
            refine lv_irem hx hb dX13_fits_58 (by decide) ?_
            refine lv_iload_n hx hb dX13_fits_59 rfl (lv_at hl 2 rfl) ?_
            refine lv_iconst (v := 2) hx hb dX13_fits_60 (by decide) ?_
            refine lv_irem hx hb dX13_fits_61 (by decide) ?_
            refine lv_icmp_ne (tgt := 88) hx hb dX13_fits_62 (by decide) (fun c_7 => ?_) (fun c_7 => ?_)
            · rw [if_neg c_7] at hsp
              refine lv_iconst (v := 0) hx hb dX13_fits_88 (by decide) ?_
              have hr0 := Option.some.inj hsp
              clear hsp
              subst hr0
              have hP9 := hP.sub (ws' := [(h0, .inr (13, zs)), (qf27, .inl (cf27, 400, .inl f27))]) [0, 1] rfl
              have hD9 := hD.sub (ws' := [(h0, .inr (13, zs)), (qf27, .inl (cf27, 400, .inl f27))]) [0, 1] (by decide) rfl
              have hK9 := hK.sub (tys' := [(cf27, .int)]) [0] rfl
              exact W.zret hx hb hr (by decide) (fun t ht hW => ⟨⟨(0), (zs), rfl, ⟨⟨rfl, Or.inl rfl⟩, hlen, hrs0⟩, by rw [ht]; exact hP9, va_K.moved hW.alike hK9, hD9⟩, hS.F ht⟩) hS.2.2 dX13_fits_89
            · rw [if_pos c_7] at hsp
              refine lv_aload_n hx hb dX13_fits_65 rfl (lv_at hl 0 rfl) ?_
              refine lv_iload_n hx hb dX13_fits_66 rfl (lv_at hl 1 rfl) ?_
              refine lv_bipush (v := 8) hx hb dX13_fits_67 (by decide) ?_
              refine lv_isub hx hb dX13_fits_69 ?_
              refine lv_iconst (v := 2) hx hb dX13_fits_70 (by decide) ?_
              refine lv_idiv hx hb dX13_fits_71 (by decide) ?_
              refine lv_iload_n hx hb dX13_fits_72 rfl (lv_at hl 2 rfl) ?_
              refine lv_bipush (v := 8) hx hb dX13_fits_73 (by decide) ?_
              refine lv_isub hx hb dX13_fits_75 ?_
              refine lv_iconst (v := 2) hx hb dX13_fits_76 (by decide) ?_
              refine lv_idiv hx hb dX13_fits_77 (by decide) ?_
              obtain ⟨u2_0, hu_2, hsp⟩ := ox_bind hsp
              try dsimp only at hsp
              have hPc := hP.sub (ws' := [(h0, .inr (13, zs)), (qf27, .inl (cf27, 400, .inl f27))]) [0, 1] rfl
              have hDc := hD.sub (ws' := [(h0, .inr (13, zs)), (qf27, .inl (cf27, 400, .inl f27))]) [0, 1] (by decide) rfl
              have hKc := hK.sub (tys' := [(cf27, .int)]) [0] rfl
              have hFc := va_free (wc := [(h0, .inr (13, zs)), (qf27, .inl (cf27, 400, .inl f27))]) hD hS hA [0, 1] rfl
              refine va_calli (va_runV (As := [.int ((a1 - 8) / 2), .int ((a2 - 8) / 2)]) (rest := []) ⟨hx, hb, hml, hown, hts⟩ (tn_extendsIt l dC dI H.size h0 zs (((a1 - 8) / 2)) (((a2 - 8) / 2)) qf27 cf27 f27 nf u2_0 hlen hf27 hu_2) (cwV 2 hts gv_h6_5 rfl rfl rfl (by decide +kernel) ⟨Nat.le_of_ble_eq_true rfl, Nat.le_of_ble_eq_true rfl⟩) ⟨fun a U g mk q => by obtain ⟨q0, q1, qP, qK, qD⟩ := q; exact ⟨q0, q1, qP, va_K.moved (u := U) (U := U.calling g mk a) (Vm.Alike.refl U.vm) qK, qD⟩, va_recv hKc hPc (ci := 13) (q0 := 0) rfl rfl, fun U hU hW => ⟨rfl, by rw [hU], by rw [hU]; exact hPc, va_K.moved hW.alike hKc, hDc.weaken (fun _ _ _ _ => trivial)⟩⟩ rfl rfl hl.1 rfl (lv_room (Nat.le_of_ble_eq_true rfl)) dX13_fits_78 ⟨Nat.le_of_ble_eq_true rfl, Nat.le_of_ble_eq_true rfl⟩) hS (fun q _ h => hFc q h) hFc ?_
              clear hS
              intro r_8 u t H1 locs ht hvm hw hB hz1 hk1 hS
              obtain ⟨z_2, rfl⟩ : ∃ z, z = u := ⟨_, rfl⟩
              obtain ⟨hP1, hK1, hD1⟩ := hB
              rw [ht] at hP1
              have hK1 := va_K.moved hvm.symm hK1
              try dsimp only at hw
              have hPD := va_join (wr := []) (w1 := [(h0, .inr (13, z_2)), (qf27, .inl (cf27, 400, .inl f27))]) hP hD [0, 1] [] rfl rfl (by decide) (by decide) hk1 hFc hP1 hD1
              clear hP hD
              obtain ⟨hP, hD⟩ := hPD
              replace hK := (hK.sub (tys' := []) [] rfl).app hK1
              clear hPc hDc hKc hFc hP1 hK1 hD1 hz1 hk1 ht hvm
              generalize H1 = H at hP hS ⊢
              replace hP : va_P (dC, dI) vwCl [(h0, .inr (13, z_2)), (qf27, .inl (cf27, 400, .inl f27))] H := hP
              replace hD : va_D A [(h0, .inr (13, z_2)), (qf27, .inl (cf27, 400, .inl f27))] := hD
              replace hK : va_K (dC, dI) vwCl [(cf27, .int)] s := hK
              obtain ⟨hwa_2, hln_2, hre_2⟩ := hw
              have hfk_2_27 : z_2[27]? = some (.ref qf27) := (hre_2 27 ).trans (hf27)
              have hrq_2 : ∀ j : Nat, z_2[j]? = zs[j]? := fun j  => (hre_2 j ).trans (hrs0 j )
              obtain ⟨rfl, hz_2⟩ := hwa_2
              rcases hz_2 with rfl | rfl
              · rw [if_pos rfl] at hsp
                refine lv_if_eq (tgt := 88) hx hb dX13_fits_81 (by decide) (fun c_9 => ?_) (fun c_9 => (show False by revert c_9; decide).elim)
                refine lv_iconst (v := 0) hx hb dX13_fits_88 (by decide) ?_
                have hr0 := Option.some.inj hsp
                clear hsp
                subst hr0
                have hP9 := hP.sub (ws' := [(h0, .inr (13, z_2)), (qf27, .inl (cf27, 400, .inl f27))]) [0, 1] rfl
                have hD9 := hD.sub (ws' := [(h0, .inr (13, z_2)), (qf27, .inl (cf27, 400, .inl f27))]) [0, 1] (by decide) rfl
                have hK9 := hK.sub (tys' := [(cf27, .int)]) [0] rfl
                exact W.zret hx hb hr (by decide) (fun t ht hW => ⟨⟨(0), (z_2), rfl, ⟨⟨rfl, Or.inl rfl⟩, hln_2, hrq_2⟩, by rw [ht]; exact hP9, va_K.moved hW.alike hK9, hD9⟩, hS.F ht⟩) hS.2.2 dX13_fits_89
              · rw [if_neg (by decide)] at hsp
                refine lv_if_eq (tgt := 88) hx hb dX13_fits_81 (by decide) (fun c_10 => (show False by revert c_10; decide).elim) (fun c_10 => ?_)
                refine lv_iconst (v := 1) hx hb dX13_fits_84 (by decide) ?_
                refine lv_goto (tgt := 89) hx hb dX13_fits_85 (by decide) ?_
                have hr0 := Option.some.inj hsp
                clear hsp
                subst hr0
                have hP9 := hP.sub (ws' := [(h0, .inr (13, z_2)), (qf27, .inl (cf27, 400, .inl f27))]) [0, 1] rfl
                have hD9 := hD.sub (ws' := [(h0, .inr (13, z_2)), (qf27, .inl (cf27, 400, .inl f27))]) [0, 1] (by decide) rfl
                have hK9 := hK.sub (tys' := [(cf27, .int)]) [0] rfl
                exact W.zret hx hb hr (by decide) (fun t ht hW => ⟨⟨(1), (z_2), rfl, ⟨⟨rfl, Or.inr rfl⟩, hln_2, hrq_2⟩, by rw [ht]; exact hP9, va_K.moved hW.alike hK9, hD9⟩, hS.F ht⟩) hS.2.2 dX13_fits_89
      · rw [if_neg (by decide)] at hsp
        refine lv_if_eq (tgt := 44) hx hb dX13_fits_33 (by decide) (fun c_11 => (show False by revert c_11; decide).elim) (fun c_11 => ?_)
        refine lv_iload_n hx hb dX13_fits_36 rfl (lv_at hl 2 rfl) ?_
        refine lv_bipush (v := 8) hx hb dX13_fits_37 (by decide) ?_
        refine lv_icmp_ne (tgt := 44) hx hb dX13_fits_39 (by decide) (fun c_12 => ?_) (fun c_12 => ?_)
        · rw [if_neg c_12] at hsp
          refine lv_iload_n hx hb dX13_fits_44 rfl (lv_at hl 1 rfl) ?_
          refine lv_bipush (v := 8) hx hb dX13_fits_45 (by decide) ?_
          refine lv_icmp_lt (tgt := 88) hx hb dX13_fits_47 (by decide) (fun c_13 => ?_) (fun c_13 => ?_)
          · rw [if_pos c_13] at hsp
            refine lv_iconst (v := 0) hx hb dX13_fits_88 (by decide) ?_
            have hr0 := Option.some.inj hsp
            clear hsp
            subst hr0
            have hP9 := hP.sub (ws' := [(h0, .inr (13, zs)), (qf27, .inl (cf27, 400, .inl f27))]) [0, 1] rfl
            have hD9 := hD.sub (ws' := [(h0, .inr (13, zs)), (qf27, .inl (cf27, 400, .inl f27))]) [0, 1] (by decide) rfl
            have hK9 := hK.sub (tys' := [(cf27, .int)]) [0] rfl
            exact W.zret hx hb hr (by decide) (fun t ht hW => ⟨⟨(0), (zs), rfl, ⟨⟨rfl, Or.inl rfl⟩, hlen, hrs0⟩, by rw [ht]; exact hP9, va_K.moved hW.alike hK9, hD9⟩, hS.F ht⟩) hS.2.2 dX13_fits_89
          · rw [if_neg c_13] at hsp
            refine lv_iload_n hx hb dX13_fits_50 rfl (lv_at hl 2 rfl) ?_
            refine lv_bipush (v := 8) hx hb dX13_fits_51 (by decide) ?_
            refine lv_icmp_lt (tgt := 88) hx hb dX13_fits_53 (by decide) (fun c_14 => ?_) (fun c_14 => ?_)
            · rw [if_pos c_14] at hsp
              refine lv_iconst (v := 0) hx hb dX13_fits_88 (by decide) ?_
              have hr0 := Option.some.inj hsp
              clear hsp
              subst hr0
              have hP9 := hP.sub (ws' := [(h0, .inr (13, zs)), (qf27, .inl (cf27, 400, .inl f27))]) [0, 1] rfl
              have hD9 := hD.sub (ws' := [(h0, .inr (13, zs)), (qf27, .inl (cf27, 400, .inl f27))]) [0, 1] (by decide) rfl
              have hK9 := hK.sub (tys' := [(cf27, .int)]) [0] rfl
              exact W.zret hx hb hr (by decide) (fun t ht hW => ⟨⟨(0), (zs), rfl, ⟨⟨rfl, Or.inl rfl⟩, hlen, hrs0⟩, by rw [ht]; exact hP9, va_K.moved hW.alike hK9, hD9⟩, hS.F ht⟩) hS.2.2 dX13_fits_89
            · rw [if_neg c_14] at hsp
              refine lv_iload_n hx hb dX13_fits_56 rfl (lv_at hl 1 rfl) ?_
              refine lv_iconst (v := 2) hx hb dX13_fits_57 (by decide) ?_
              refine lv_irem hx hb dX13_fits_58 (by decide) ?_
              refine lv_iload_n hx hb dX13_fits_59 rfl (lv_at hl 2 rfl) ?_
              refine lv_iconst (v := 2) hx hb dX13_fits_60 (by decide) ?_
              refine lv_irem hx hb dX13_fits_61 (by decide) ?_
              refine lv_icmp_ne (tgt := 88) hx hb dX13_fits_62 (by decide) (fun c_15 => ?_) (fun c_15 => ?_)
              · rw [if_neg c_15] at hsp
                refine lv_iconst (v := 0) hx hb dX13_fits_88 (by decide) ?_
                have hr0 := Option.some.inj hsp
                clear hsp
                subst hr0
                have hP9 := hP.sub (ws' := [(h0, .inr (13, zs)), (qf27, .inl (cf27, 400, .inl f27))]) [0, 1] rfl
                have hD9 := hD.sub (ws' := [(h0, .inr (13, zs)), (qf27, .inl (cf27, 400, .inl f27))]) [0, 1] (by decide) rfl
                have hK9 := hK.sub (tys' := [(cf27, .int)]) [0] rfl
                exact W.zret hx hb hr (by decide) (fun t ht hW => ⟨⟨(0), (zs), rfl, ⟨⟨rfl, Or.inl rfl⟩, hlen, hrs0⟩, by rw [ht]; exact hP9, va_K.moved hW.alike hK9, hD9⟩, hS.F ht⟩) hS.2.2 dX13_fits_89
              · rw [if_pos c_15] at hsp
                refine lv_aload_n hx hb dX13_fits_65 rfl (lv_at hl 0 rfl) ?_
                refine lv_iload_n hx hb dX13_fits_66 rfl (lv_at hl 1 rfl) ?_
                refine lv_bipush (v := 8) hx hb dX13_fits_67 (by decide) ?_
                refine lv_isub hx hb dX13_fits_69 ?_
                refine lv_iconst (v := 2) hx hb dX13_fits_70 (by decide) ?_
                refine lv_idiv hx hb dX13_fits_71 (by decide) ?_
                refine lv_iload_n hx hb dX13_fits_72 rfl (lv_at hl 2 rfl) ?_
                refine lv_bipush (v := 8) hx hb dX13_fits_73 (by decide) ?_
                refine lv_isub hx hb dX13_fits_75 ?_
                refine lv_iconst (v := 2) hx hb dX13_fits_76 (by decide) ?_
                refine lv_idiv hx hb dX13_fits_77 (by decide) ?_
                obtain ⟨u3_0, hu_3, hsp⟩ := ox_bind hsp
                try dsimp only at hsp
                have hPc := hP.sub (ws' := [(h0, .inr (13, zs)), (qf27, .inl (cf27, 400, .inl f27))]) [0, 1] rfl
                have hDc := hD.sub (ws' := [(h0, .inr (13, zs)), (qf27, .inl (cf27, 400, .inl f27))]) [0, 1] (by decide) rfl
                have hKc := hK.sub (tys' := [(cf27, .int)]) [0] rfl
                have hFc := va_free (wc := [(h0, .inr (13, zs)), (qf27, .inl (cf27, 400, .inl f27))]) hD hS hA [0, 1] rfl
                refine va_calli (va_runV (As := [.int ((a1 - 8) / 2), .int ((a2 - 8) / 2)]) (rest := []) ⟨hx, hb, hml, hown, hts⟩ (tn_extendsIt l dC dI H.size h0 zs (((a1 - 8) / 2)) (((a2 - 8) / 2)) qf27 cf27 f27 nf u3_0 hlen hf27 hu_3) (cwV 2 hts gv_h6_5 rfl rfl rfl (by decide +kernel) ⟨Nat.le_of_ble_eq_true rfl, Nat.le_of_ble_eq_true rfl⟩) ⟨fun a U g mk q => by obtain ⟨q0, q1, qP, qK, qD⟩ := q; exact ⟨q0, q1, qP, va_K.moved (u := U) (U := U.calling g mk a) (Vm.Alike.refl U.vm) qK, qD⟩, va_recv hKc hPc (ci := 13) (q0 := 0) rfl rfl, fun U hU hW => ⟨rfl, by rw [hU], by rw [hU]; exact hPc, va_K.moved hW.alike hKc, hDc.weaken (fun _ _ _ _ => trivial)⟩⟩ rfl rfl hl.1 rfl (lv_room (Nat.le_of_ble_eq_true rfl)) dX13_fits_78 ⟨Nat.le_of_ble_eq_true rfl, Nat.le_of_ble_eq_true rfl⟩) hS (fun q _ h => hFc q h) hFc ?_
                clear hS
                intro r_16 u t H1 locs ht hvm hw hB hz1 hk1 hS
                obtain ⟨z_3, rfl⟩ : ∃ z, z = u := ⟨_, rfl⟩
                obtain ⟨hP1, hK1, hD1⟩ := hB
                rw [ht] at hP1
                have hK1 := va_K.moved hvm.symm hK1
                try dsimp only at hw
                have hPD := va_join (wr := []) (w1 := [(h0, .inr (13, z_3)), (qf27, .inl (cf27, 400, .inl f27))]) hP hD [0, 1] [] rfl rfl (by decide) (by decide) hk1 hFc hP1 hD1
                clear hP hD
                obtain ⟨hP, hD⟩ := hPD
                replace hK := (hK.sub (tys' := []) [] rfl).app hK1
                clear hPc hDc hKc hFc hP1 hK1 hD1 hz1 hk1 ht hvm
                generalize H1 = H at hP hS ⊢
                replace hP : va_P (dC, dI) vwCl [(h0, .inr (13, z_3)), (qf27, .inl (cf27, 400, .inl f27))] H := hP
                replace hD : va_D A [(h0, .inr (13, z_3)), (qf27, .inl (cf27, 400, .inl f27))] := hD
                replace hK : va_K (dC, dI) vwCl [(cf27, .int)] s := hK
                obtain ⟨hwa_3, hln_3, hre_3⟩ := hw
                have hfk_3_27 : z_3[27]? = some (.ref qf27) := (hre_3 27 ).trans (hf27)
                have hrq_3 : ∀ j : Nat, z_3[j]? = zs[j]? := fun j  => (hre_3 j ).trans (hrs0 j )
                obtain ⟨rfl, hz_3⟩ := hwa_3
                rcases hz_3 with rfl | rfl
                · rw [if_pos rfl] at hsp
                  refine lv_if_eq (tgt := 88) hx hb dX13_fits_81 (by decide) (fun c_17 => ?_) (fun c_17 => (show False by revert c_17; decide).elim)
                  refine lv_iconst (v := 0) hx hb dX13_fits_88 (by decide) ?_
                  have hr0 := Option.some.inj hsp
                  clear hsp
                  subst hr0
                  have hP9 := hP.sub (ws' := [(h0, .inr (13, z_3)), (qf27, .inl (cf27, 400, .inl f27))]) [0, 1] rfl
                  have hD9 := hD.sub (ws' := [(h0, .inr (13, z_3)), (qf27, .inl (cf27, 400, .inl f27))]) [0, 1] (by decide) rfl
                  have hK9 := hK.sub (tys' := [(cf27, .int)]) [0] rfl
                  exact W.zret hx hb hr (by decide) (fun t ht hW => ⟨⟨(0), (z_3), rfl, ⟨⟨rfl, Or.inl rfl⟩, hln_3, hrq_3⟩, by rw [ht]; exact hP9, va_K.moved hW.alike hK9, hD9⟩, hS.F ht⟩) hS.2.2 dX13_fits_89
                · rw [if_neg (by decide)] at hsp
                  refine lv_if_eq (tgt := 88) hx hb dX13_fits_81 (by decide) (fun c_18 => (show False by revert c_18; decide).elim) (fun c_18 => ?_)
                  refine lv_iconst (v := 1) hx hb dX13_fits_84 (by decide) ?_
                  refine lv_goto (tgt := 89) hx hb dX13_fits_85 (by decide) ?_
                  have hr0 := Option.some.inj hsp
                  clear hsp
                  subst hr0
                  have hP9 := hP.sub (ws' := [(h0, .inr (13, z_3)), (qf27, .inl (cf27, 400, .inl f27))]) [0, 1] rfl
                  have hD9 := hD.sub (ws' := [(h0, .inr (13, z_3)), (qf27, .inl (cf27, 400, .inl f27))]) [0, 1] (by decide) rfl
                  have hK9 := hK.sub (tys' := [(cf27, .int)]) [0] rfl
                  exact W.zret hx hb hr (by decide) (fun t ht hW => ⟨⟨(1), (z_3), rfl, ⟨⟨rfl, Or.inr rfl⟩, hln_3, hrq_3⟩, by rw [ht]; exact hP9, va_K.moved hW.alike hK9, hD9⟩, hS.F ht⟩) hS.2.2 dX13_fits_89
        · rw [if_pos c_12] at hsp
          refine lv_iconst (v := 1) hx hb dX13_fits_42 (by decide) ?_
          have hr0 := Option.some.inj hsp
          clear hsp
          subst hr0
          have hP9 := hP.sub (ws' := [(h0, .inr (13, zs)), (qf27, .inl (cf27, 400, .inl f27))]) [0, 1] rfl
          have hD9 := hD.sub (ws' := [(h0, .inr (13, zs)), (qf27, .inl (cf27, 400, .inl f27))]) [0, 1] (by decide) rfl
          have hK9 := hK.sub (tys' := [(cf27, .int)]) [0] rfl
          exact W.zret hx hb hr (by decide) (fun t ht hW => ⟨⟨(1), (zs), rfl, ⟨⟨rfl, Or.inr rfl⟩, hlen, hrs0⟩, by rw [ht]; exact hP9, va_K.moved hW.alike hK9, hD9⟩, hS.F ht⟩) hS.2.2 dX13_fits_43
    · rw [if_pos c_2] at hsp
      refine lv_iload_n hx hb dX13_fits_12 rfl (lv_at hl 2 rfl) ?_
      refine lv_iconst (v := 4) hx hb dX13_fits_13 (by decide) ?_
      refine lv_icmp_eq (tgt := 23) hx hb dX13_fits_14 (by decide) (fun c_19 => ?_) (fun c_19 => ?_)
      · rw [if_pos c_19] at hsp
        refine lv_iconst (v := 1) hx hb dX13_fits_23 (by decide) ?_
        refine lv_goto (tgt := 28) hx hb dX13_fits_24 (by decide) ?_
        have hr0 := Option.some.inj hsp
        clear hsp
        subst hr0
        have hP9 := hP.sub (ws' := [(h0, .inr (13, zs)), (qf27, .inl (cf27, 400, .inl f27))]) [0, 1] rfl
        have hD9 := hD.sub (ws' := [(h0, .inr (13, zs)), (qf27, .inl (cf27, 400, .inl f27))]) [0, 1] (by decide) rfl
        have hK9 := hK.sub (tys' := [(cf27, .int)]) [0] rfl
        exact W.zret hx hb hr (by decide) (fun t ht hW => ⟨⟨(1), (zs), rfl, ⟨⟨rfl, Or.inr rfl⟩, hlen, hrs0⟩, by rw [ht]; exact hP9, va_K.moved hW.alike hK9, hD9⟩, hS.F ht⟩) hS.2.2 dX13_fits_28
      · rw [if_neg c_19] at hsp
        refine lv_iload_n hx hb dX13_fits_17 rfl (lv_at hl 2 rfl) ?_
        refine lv_bipush (v := 8) hx hb dX13_fits_18 (by decide) ?_
        refine lv_icmp_lt (tgt := 27) hx hb dX13_fits_20 (by decide) (fun c_20 => ?_) (fun c_20 => ?_)
        · rw [if_pos c_20] at hsp
          refine lv_iconst (v := 0) hx hb dX13_fits_27 (by decide) ?_
          have hr0 := Option.some.inj hsp
          clear hsp
          subst hr0
          have hP9 := hP.sub (ws' := [(h0, .inr (13, zs)), (qf27, .inl (cf27, 400, .inl f27))]) [0, 1] rfl
          have hD9 := hD.sub (ws' := [(h0, .inr (13, zs)), (qf27, .inl (cf27, 400, .inl f27))]) [0, 1] (by decide) rfl
          have hK9 := hK.sub (tys' := [(cf27, .int)]) [0] rfl
          exact W.zret hx hb hr (by decide) (fun t ht hW => ⟨⟨(0), (zs), rfl, ⟨⟨rfl, Or.inl rfl⟩, hlen, hrs0⟩, by rw [ht]; exact hP9, va_K.moved hW.alike hK9, hD9⟩, hS.F ht⟩) hS.2.2 dX13_fits_28
        · rw [if_neg c_20] at hsp
          refine lv_iconst (v := 1) hx hb dX13_fits_23 (by decide) ?_
          refine lv_goto (tgt := 28) hx hb dX13_fits_24 (by decide) ?_
          have hr0 := Option.some.inj hsp
          clear hsp
          subst hr0
          have hP9 := hP.sub (ws' := [(h0, .inr (13, zs)), (qf27, .inl (cf27, 400, .inl f27))]) [0, 1] rfl
          have hD9 := hD.sub (ws' := [(h0, .inr (13, zs)), (qf27, .inl (cf27, 400, .inl f27))]) [0, 1] (by decide) rfl
          have hK9 := hK.sub (tys' := [(cf27, .int)]) [0] rfl
          exact W.zret hx hb hr (by decide) (fun t ht hW => ⟨⟨(1), (zs), rfl, ⟨⟨rfl, Or.inr rfl⟩, hlen, hrs0⟩, by rw [ht]; exact hP9, va_K.moved hW.alike hK9, hD9⟩, hS.F ht⟩) hS.2.2 dX13_fits_28
  · rw [if_pos c_1] at hsp
    refine lv_iconst (v := 1) hx hb dX13_fits_5 (by decide) ?_
    have hr0 := Option.some.inj hsp
    clear hsp
    subst hr0
    have hP9 := hP.sub (ws' := [(h0, .inr (13, zs)), (qf27, .inl (cf27, 400, .inl f27))]) [0, 1] rfl
    have hD9 := hD.sub (ws' := [(h0, .inr (13, zs)), (qf27, .inl (cf27, 400, .inl f27))]) [0, 1] (by decide) rfl
    have hK9 := hK.sub (tys' := [(cf27, .int)]) [0] rfl
    exact W.zret hx hb hr (by decide) (fun t ht hW => ⟨⟨(1), (zs), rfl, ⟨⟨rfl, Or.inr rfl⟩, hlen, hrs0⟩, by rw [ht]; exact hP9, va_K.moved hW.alike hK9, hD9⟩, hS.F ht⟩) hS.2.2 dX13_fits_6
def sp_tn_goTogether (nf : Nat) (a1 : Int32) (a2 : Int32) (f27 : Nat → Int32) : Option (Int32) := (if a1 < 2 then (if a1 = a2 then (some 1) else (some 0)) else (if 2 ≤ a2 then ((sp_tn_fits nf a1 a2 f27).bind (fun p1 => (if p1 = 0 then ((sp_tn_fits nf a2 a1 f27).bind (fun p2 => (if p2 = 0 then (some 0) else (some 1)))) else (some 1)))) else (if a1 = a2 then (some 1) else (some 0))))
set_option maxHeartbeats 4000000 in
set_option maxRecDepth 100000 in
/-- ClassMillModel.goTogether -/
theorem tn_goTogether (l : Launch) (dC : Nat → ClassId) (dI : Nat → Nat → Nat) (sz : Nat) (h0 : Nat) (zs : (List Value)) (a1 : Int32) (a2 : Int32) (qf27 : Nat) (cf27 : ClassId) (f27 : (Nat → Int32)) (nf : Nat) (r0 : Int32) (hlen : zs.length = 155) (hf27 : zs[27]? = some (.ref qf27)) (hsp : sp_tn_goTogether nf a1 a2 f27 = some r0) : Met l yX13_goTogether (.code yX13_goTogether cX13_goTogether 3 (some .boolean) :: VS_h6) ({ frames := 3, cells := 0, slots := 0, locals := 66 }) (va_Pc [.ref h0, .int a1, .int a2] (fun U => U.heap.size = sz ∧ va_P (dC, dI) vwCl [(h0, .inr (13, zs)), (qf27, .inl (cf27, 400, .inl f27))] U.heap ∧ va_K (dC, dI) vwCl [(cf27, .int)] U ∧ va_D (fun _ => True) [(h0, .inr (13, zs)), (qf27, .inl (cf27, 400, .inl f27))])) (va_Qi (fun (r : Int32) (u : (List Value)) => match u with | (zo1) => (r0 = r ∧ (r0 = 0 ∨ r0 = 1)) ∧ zo1.length = 155 ∧ (∀ j : Nat, zo1[j]? = zs[j]?)) (fun (u : (List Value)) (t : State) => match u with | (zo1) => va_P (dC, dI) vwCl [(h0, .inr (13, zo1)), (qf27, .inl (cf27, 400, .inl f27))] t.heap ∧ va_K (dC, dI) vwCl [(cf27, .int)] t ∧ va_D (va_A [(h0, .inr (13, zs)), (qf27, .inl (cf27, 400, .inl f27))] sz) [(h0, .inr (13, zo1)), (qf27, .inl (cf27, 400, .inl f27))]) (va_A [(h0, .inr (13, zs)), (qf27, .inl (cf27, 400, .inl f27))] sz)) 0 0 (va_A [(h0, .inr (13, zs)), (qf27, .inl (cf27, 400, .inl f27))] sz) := by
  refine Met.ofW (cc := cX13_goTogether) (maxL := 3) (ret := (some .boolean)) (by decide) rfl ?_
  intro p e s m args below meth c s₁ B hml hv
  obtain ⟨rfl, hsz, hP, hK, hD0⟩ := hv
  have hx := B.exec
  have hb := B.bytes
  have hr := B.returns
  have hts := atoms_spec (ws := (.code yX13_goTogether cX13_goTogether 3 (some .boolean) :: VS_h6)) B.pre
  replace hts := fun w (h : w ∈ VS_h6) => hts w (List.mem_cons_of_mem _ h)
  have hown : s.vm.findClass RX13 = some m.cls := findClass_of_methodNamed B.named
  have hlocks := B.notSynchronized
  subst hsz
  have hD := hD0.self (sz := s.heap.size)
  generalize hAe : va_A [(h0, .inr (13, zs)), (qf27, .inl (cf27, 400, .inl f27))] s.heap.size = A at hD  ⊢
  have hA : ∀ q : Nat, s.heap.size ≤ q → A q := fun q h => by rw [← hAe]; exact Or.inr h
  have hP : va_P (dC, dI) vwCl [(h0, .inr (13, zs)), (qf27, .inl (cf27, 400, .inl f27))] s.heap := hP
  have hl := lv_entry ([.ref h0, .int a1, .int a2]) (n := 3) (Nat.le_of_ble_eq_true rfl)
  rw [lg_entry_eq]
  generalize (lg_sl ([.ref h0, .int a1, .int a2]) ++ List.replicate (3 - (lg_sl ([.ref h0, .int a1, .int a2])).length) Slot.unset).toArray = ls at hl ⊢
  have hl : lv_has ls 3 [(0, .ref h0), (1, .int a1), (2, .int a2)] := hl
  obtain ⟨H, hH⟩ : ∃ H : Heap, s.heap = H := ⟨_, rfl⟩
  rw [hH] at hP ⊢
  have hS : va_S A s.heap H [] := by rw [← hH]; exact va_S.rf
  obtain ⟨locs, hlo⟩ : ∃ locs : List Loc, locs = [] := ⟨_, rfl⟩
  rw [← hlo] at hS ⊢
  have hrs0 : ∀ j : Nat, zs[j]? = zs[j]? := fun _  => rfl
  unfold sp_tn_goTogether at hsp
  refine lv_iload_n hx hb dX13_goTogether_0 rfl (lv_at hl 1 rfl) ?_
  refine lv_iconst (v := 2) hx hb dX13_goTogether_1 (by decide) ?_
  refine lv_icmp_lt (tgt := 10) hx hb dX13_goTogether_2 (by decide) (fun c_1 => ?_) (fun c_1 => ?_)
  · rw [if_pos c_1] at hsp
    refine lv_iload_n hx hb dX13_goTogether_10 rfl (lv_at hl 1 rfl) ?_
    refine lv_iload_n hx hb dX13_goTogether_11 rfl (lv_at hl 2 rfl) ?_
    refine lv_icmp_ne (tgt := 19) hx hb dX13_goTogether_12 (by decide) (fun c_2 => ?_) (fun c_2 => ?_)
    · rw [if_neg c_2] at hsp
      refine lv_iconst (v := 0) hx hb dX13_goTogether_19 (by decide) ?_
      have hr0 := Option.some.inj hsp
      clear hsp
      subst hr0
      have hP9 := hP.sub (ws' := [(h0, .inr (13, zs)), (qf27, .inl (cf27, 400, .inl f27))]) [0, 1] rfl
      have hD9 := hD.sub (ws' := [(h0, .inr (13, zs)), (qf27, .inl (cf27, 400, .inl f27))]) [0, 1] (by decide) rfl
      have hK9 := hK.sub (tys' := [(cf27, .int)]) [0] rfl
      exact W.zret hx hb hr (by decide) (fun t ht hW => ⟨⟨(0), (zs), rfl, ⟨⟨rfl, Or.inl rfl⟩, hlen, hrs0⟩, by rw [ht]; exact hP9, va_K.moved hW.alike hK9, hD9⟩, hS.F ht⟩) hS.2.2 dX13_goTogether_20
    · rw [if_pos c_2] at hsp
      refine lv_iconst (v := 1) hx hb dX13_goTogether_15 (by decide) ?_
      refine lv_goto (tgt := 20) hx hb dX13_goTogether_16 (by decide) ?_
      have hr0 := Option.some.inj hsp
      clear hsp
      subst hr0
      have hP9 := hP.sub (ws' := [(h0, .inr (13, zs)), (qf27, .inl (cf27, 400, .inl f27))]) [0, 1] rfl
      have hD9 := hD.sub (ws' := [(h0, .inr (13, zs)), (qf27, .inl (cf27, 400, .inl f27))]) [0, 1] (by decide) rfl
      have hK9 := hK.sub (tys' := [(cf27, .int)]) [0] rfl
      exact W.zret hx hb hr (by decide) (fun t ht hW => ⟨⟨(1), (zs), rfl, ⟨⟨rfl, Or.inr rfl⟩, hlen, hrs0⟩, by rw [ht]; exact hP9, va_K.moved hW.alike hK9, hD9⟩, hS.F ht⟩) hS.2.2 dX13_goTogether_20
  · rw [if_neg c_1] at hsp
    refine lv_iload_n hx hb dX13_goTogether_5 rfl (lv_at hl 2 rfl) ?_
    refine lv_iconst (v := 2) hx hb dX13_goTogether_6 (by decide) ?_
    refine lv_icmp_ge (tgt := 21) hx hb dX13_goTogether_7 (by decide) (fun c_3 => ?_) (fun c_3 => ?_)
    · rw [if_pos c_3] at hsp
      refine lv_aload_n hx hb dX13_goTogether_21 rfl (lv_at hl 0 rfl) ?_
      refine lv_iload_n hx hb dX13_goTogether_22 rfl (lv_at hl 1 rfl) ?_
      refine lv_iload_n hx hb dX13_goTogether_23 rfl (lv_at hl 2 rfl) ?_
      obtain ⟨u1_0, hu_1, hsp⟩ := ox_bind hsp
      try dsimp only at hsp
      have hPc := hP.sub (ws' := [(h0, .inr (13, zs)), (qf27, .inl (cf27, 400, .inl f27))]) [0, 1] rfl
      have hDc := hD.sub (ws' := [(h0, .inr (13, zs)), (qf27, .inl (cf27, 400, .inl f27))]) [0, 1] (by decide) rfl
      have hKc := hK.sub (tys' := [(cf27, .int)]) [0] rfl
      have hFc := va_free (wc := [(h0, .inr (13, zs)), (qf27, .inl (cf27, 400, .inl f27))]) hD hS hA [0, 1] rfl
      refine va_calli (va_runV (As := [.int a1, .int a2]) (rest := []) ⟨hx, hb, hml, hown, hts⟩ (tn_fits l dC dI H.size h0 zs a1 a2 qf27 cf27 f27 nf u1_0 hlen hf27 hu_1) (cwV 2 hts gv_h6_6 rfl rfl rfl (by decide +kernel) ⟨Nat.le_of_ble_eq_true rfl, Nat.le_of_ble_eq_true rfl⟩) ⟨fun a U g mk q => by obtain ⟨q0, q1, qP, qK, qD⟩ := q; exact ⟨q0, q1, qP, va_K.moved (u := U) (U := U.calling g mk a) (Vm.Alike.refl U.vm) qK, qD⟩, va_recv hKc hPc (ci := 13) (q0 := 0) rfl rfl, fun U hU hW => ⟨rfl, by rw [hU], by rw [hU]; exact hPc, va_K.moved hW.alike hKc, hDc.weaken (fun _ _ _ _ => trivial)⟩⟩ rfl rfl hl.1 rfl (lv_room (Nat.le_of_ble_eq_true rfl)) dX13_goTogether_24 ⟨Nat.le_of_ble_eq_true rfl, Nat.le_of_ble_eq_true rfl⟩) hS (fun q _ h => hFc q h) hFc ?_
      clear hS
      intro r_4 u t H1 locs ht hvm hw hB hz1 hk1 hS
      obtain ⟨z_1, rfl⟩ : ∃ z, z = u := ⟨_, rfl⟩
      obtain ⟨hP1, hK1, hD1⟩ := hB
      rw [ht] at hP1
      have hK1 := va_K.moved hvm.symm hK1
      try dsimp only at hw
      have hPD := va_join (wr := []) (w1 := [(h0, .inr (13, z_1)), (qf27, .inl (cf27, 400, .inl f27))]) hP hD [0, 1] [] rfl rfl (by decide) (by decide) hk1 hFc hP1 hD1
      clear hP hD
      obtain ⟨hP, hD⟩ := hPD
      replace hK := (hK.sub (tys' := []) [] rfl).app hK1
      clear hPc hDc hKc hFc hP1 hK1 hD1 hz1 hk1 ht hvm
      generalize H1 = H at hP hS ⊢
      replace hP : va_P (dC, dI) vwCl [(h0, .inr (13, z_1)), (qf27, .inl (cf27, 400, .inl f27))] H := hP
      replace hD : va_D A [(h0, .inr (13, z_1)), (qf27, .inl (cf27, 400, .inl f27))] := hD
      replace hK : va_K (dC, dI) vwCl [(cf27, .int)] s := hK
      obtain ⟨hwa_1, hln_1, hre_1⟩ := hw
      have hfk_1_27 : z_1[27]? = some (.ref qf27) := (hre_1 27 ).trans (hf27)
      have hrq_1 : ∀ j : Nat, z_1[j]? = zs[j]? := fun j  => (hre_1 j ).trans (hrs0 j )
      obtain ⟨rfl, hz_1⟩ := hwa_1
      rcases hz_1 with rfl | rfl
      · rw [if_pos rfl] at hsp
        refine lv_if_ne (tgt := 39) hx hb dX13_goTogether_27 (by decide) (fun c_5 => (show False by revert c_5; decide).elim) (fun c_5 => ?_)
        refine lv_aload_n hx hb dX13_goTogether_30 rfl (lv_at hl 0 rfl) ?_
        refine lv_iload_n hx hb dX13_goTogether_31 rfl (lv_at hl 2 rfl) ?_
        refine lv_iload_n hx hb dX13_goTogether_32 rfl (lv_at hl 1 rfl) ?_
        obtain ⟨u2_0, hu_2, hsp⟩ := ox_bind hsp
        try dsimp only at hsp
        have hPc := hP.sub (ws' := [(h0, .inr (13, z_1)), (qf27, .inl (cf27, 400, .inl f27))]) [0, 1] rfl
        have hDc := hD.sub (ws' := [(h0, .inr (13, z_1)), (qf27, .inl (cf27, 400, .inl f27))]) [0, 1] (by decide) rfl
        have hKc := hK.sub (tys' := [(cf27, .int)]) [0] rfl
        have hFc := va_free (wc := [(h0, .inr (13, z_1)), (qf27, .inl (cf27, 400, .inl f27))]) hD hS hA [0, 1] rfl
        refine va_calli (va_runV (As := [.int a2, .int a1]) (rest := []) ⟨hx, hb, hml, hown, hts⟩ (tn_fits l dC dI H.size h0 z_1 a2 a1 qf27 cf27 f27 nf u2_0 hln_1 hfk_1_27 hu_2) (cwV 2 hts gv_h6_6 rfl rfl rfl (by decide +kernel) ⟨Nat.le_of_ble_eq_true rfl, Nat.le_of_ble_eq_true rfl⟩) ⟨fun a U g mk q => by obtain ⟨q0, q1, qP, qK, qD⟩ := q; exact ⟨q0, q1, qP, va_K.moved (u := U) (U := U.calling g mk a) (Vm.Alike.refl U.vm) qK, qD⟩, va_recv hKc hPc (ci := 13) (q0 := 0) rfl rfl, fun U hU hW => ⟨rfl, by rw [hU], by rw [hU]; exact hPc, va_K.moved hW.alike hKc, hDc.weaken (fun _ _ _ _ => trivial)⟩⟩ rfl rfl hl.1 rfl (lv_room (Nat.le_of_ble_eq_true rfl)) dX13_goTogether_33 ⟨Nat.le_of_ble_eq_true rfl, Nat.le_of_ble_eq_true rfl⟩) hS (fun q _ h => hFc q h) hFc ?_
        clear hS
        intro r_6 u t H1 locs ht hvm hw hB hz1 hk1 hS
        obtain ⟨z_2, rfl⟩ : ∃ z, z = u := ⟨_, rfl⟩
        obtain ⟨hP1, hK1, hD1⟩ := hB
        rw [ht] at hP1
        have hK1 := va_K.moved hvm.symm hK1
        try dsimp only at hw
        have hPD := va_join (wr := []) (w1 := [(h0, .inr (13, z_2)), (qf27, .inl (cf27, 400, .inl f27))]) hP hD [0, 1] [] rfl rfl (by decide) (by decide) hk1 hFc hP1 hD1
        clear hP hD
        obtain ⟨hP, hD⟩ := hPD
        replace hK := (hK.sub (tys' := []) [] rfl).app hK1
        clear hPc hDc hKc hFc hP1 hK1 hD1 hz1 hk1 ht hvm
        generalize H1 = H at hP hS ⊢
        replace hP : va_P (dC, dI) vwCl [(h0, .inr (13, z_2)), (qf27, .inl (cf27, 400, .inl f27))] H := hP
        replace hD : va_D A [(h0, .inr (13, z_2)), (qf27, .inl (cf27, 400, .inl f27))] := hD
        replace hK : va_K (dC, dI) vwCl [(cf27, .int)] s := hK
        obtain ⟨hwa_2, hln_2, hre_2⟩ := hw
        have hfk_2_27 : z_2[27]? = some (.ref qf27) := (hre_2 27 ).trans (hfk_1_27)
        have hrq_2 : ∀ j : Nat, z_2[j]? = zs[j]? := fun j  => (hre_2 j ).trans (hrq_1 j )
        obtain ⟨rfl, hz_2⟩ := hwa_2
        rcases hz_2 with rfl | rfl
        · rw [if_pos rfl] at hsp
          refine lv_if_eq (tgt := 43) hx hb dX13_goTogether_36 (by decide) (fun c_7 => ?_) (fun c_7 => (show False by revert c_7; decide).elim)
          refine lv_iconst (v := 0) hx hb dX13_goTogether_43 (by decide) ?_
          have hr0 := Option.some.inj hsp
          clear hsp
          subst hr0
          have hP9 := hP.sub (ws' := [(h0, .inr (13, z_2)), (qf27, .inl (cf27, 400, .inl f27))]) [0, 1] rfl
          have hD9 := hD.sub (ws' := [(h0, .inr (13, z_2)), (qf27, .inl (cf27, 400, .inl f27))]) [0, 1] (by decide) rfl
          have hK9 := hK.sub (tys' := [(cf27, .int)]) [0] rfl
          exact W.zret hx hb hr (by decide) (fun t ht hW => ⟨⟨(0), (z_2), rfl, ⟨⟨rfl, Or.inl rfl⟩, hln_2, hrq_2⟩, by rw [ht]; exact hP9, va_K.moved hW.alike hK9, hD9⟩, hS.F ht⟩) hS.2.2 dX13_goTogether_44
        · rw [if_neg (by decide)] at hsp
          refine lv_if_eq (tgt := 43) hx hb dX13_goTogether_36 (by decide) (fun c_8 => (show False by revert c_8; decide).elim) (fun c_8 => ?_)
          refine lv_iconst (v := 1) hx hb dX13_goTogether_39 (by decide) ?_
          refine lv_goto (tgt := 44) hx hb dX13_goTogether_40 (by decide) ?_
          have hr0 := Option.some.inj hsp
          clear hsp
          subst hr0
          have hP9 := hP.sub (ws' := [(h0, .inr (13, z_2)), (qf27, .inl (cf27, 400, .inl f27))]) [0, 1] rfl
          have hD9 := hD.sub (ws' := [(h0, .inr (13, z_2)), (qf27, .inl (cf27, 400, .inl f27))]) [0, 1] (by decide) rfl
          have hK9 := hK.sub (tys' := [(cf27, .int)]) [0] rfl
          exact W.zret hx hb hr (by decide) (fun t ht hW => ⟨⟨(1), (z_2), rfl, ⟨⟨rfl, Or.inr rfl⟩, hln_2, hrq_2⟩, by rw [ht]; exact hP9, va_K.moved hW.alike hK9, hD9⟩, hS.F ht⟩) hS.2.2 dX13_goTogether_44
      · rw [if_neg (by decide)] at hsp
        refine lv_if_ne (tgt := 39) hx hb dX13_goTogether_27 (by decide) (fun c_9 => ?_) (fun c_9 => (show False by revert c_9; decide).elim)
        refine lv_iconst (v := 1) hx hb dX13_goTogether_39 (by decide) ?_
        refine lv_goto (tgt := 44) hx hb dX13_goTogether_40 (by decide) ?_
        have hr0 := Option.some.inj hsp
        clear hsp
        subst hr0
        have hP9 := hP.sub (ws' := [(h0, .inr (13, z_1)), (qf27, .inl (cf27, 400, .inl f27))]) [0, 1] rfl
        have hD9 := hD.sub (ws' := [(h0, .inr (13, z_1)), (qf27, .inl (cf27, 400, .inl f27))]) [0, 1] (by decide) rfl
        have hK9 := hK.sub (tys' := [(cf27, .int)]) [0] rfl
        exact W.zret hx hb hr (by decide) (fun t ht hW => ⟨⟨(1), (z_1), rfl, ⟨⟨rfl, Or.inr rfl⟩, hln_1, hrq_1⟩, by rw [ht]; exact hP9, va_K.moved hW.alike hK9, hD9⟩, hS.F ht⟩) hS.2.2 dX13_goTogether_44
    · rw [if_neg c_3] at hsp
      refine lv_iload_n hx hb dX13_goTogether_10 rfl (lv_at hl 1 rfl) ?_
      refine lv_iload_n hx hb dX13_goTogether_11 rfl (lv_at hl 2 rfl) ?_
      refine lv_icmp_ne (tgt := 19) hx hb dX13_goTogether_12 (by decide) (fun c_10 => ?_) (fun c_10 => ?_)
      · rw [if_neg c_10] at hsp
        refine lv_iconst (v := 0) hx hb dX13_goTogether_19 (by decide) ?_
        have hr0 := Option.some.inj hsp
        clear hsp
        subst hr0
        have hP9 := hP.sub (ws' := [(h0, .inr (13, zs)), (qf27, .inl (cf27, 400, .inl f27))]) [0, 1] rfl
        have hD9 := hD.sub (ws' := [(h0, .inr (13, zs)), (qf27, .inl (cf27, 400, .inl f27))]) [0, 1] (by decide) rfl
        have hK9 := hK.sub (tys' := [(cf27, .int)]) [0] rfl
        exact W.zret hx hb hr (by decide) (fun t ht hW => ⟨⟨(0), (zs), rfl, ⟨⟨rfl, Or.inl rfl⟩, hlen, hrs0⟩, by rw [ht]; exact hP9, va_K.moved hW.alike hK9, hD9⟩, hS.F ht⟩) hS.2.2 dX13_goTogether_20
      · rw [if_pos c_10] at hsp
        refine lv_iconst (v := 1) hx hb dX13_goTogether_15 (by decide) ?_
        refine lv_goto (tgt := 20) hx hb dX13_goTogether_16 (by decide) ?_
        have hr0 := Option.some.inj hsp
        clear hsp
        subst hr0
        have hP9 := hP.sub (ws' := [(h0, .inr (13, zs)), (qf27, .inl (cf27, 400, .inl f27))]) [0, 1] rfl
        have hD9 := hD.sub (ws' := [(h0, .inr (13, zs)), (qf27, .inl (cf27, 400, .inl f27))]) [0, 1] (by decide) rfl
        have hK9 := hK.sub (tys' := [(cf27, .int)]) [0] rfl
        exact W.zret hx hb hr (by decide) (fun t ht hW => ⟨⟨(1), (zs), rfl, ⟨⟨rfl, Or.inr rfl⟩, hlen, hrs0⟩, by rw [ht]; exact hP9, va_K.moved hW.alike hK9, hD9⟩, hS.F ht⟩) hS.2.2 dX13_goTogether_20
def lp_tn_memberOf_12 (nf n : Nat) (a1 : Int32) (a2 : Int32) (a3 : Int32) (v28 : Int32) (f27 : Nat → Int32) (f29 : Nat → Int32) (f30 : Nat → Int32) (f34 : Nat → Int32) (f6 : Nat → Int32) (f5 : Nat → Int32) (f2 : Nat → Int32) (kk_3 : Int32 → Int32 → Int32 → Int32 → Option (Int32)) (l1_12 : Int32) (l2_12 : Int32) (l3_12 : Int32) (l4_12 : Int32) (l5_12 : Int32) : Option (Int32) := match n with
  | 0 => none
  | n + 1 => (if v28 ≤ l5_12 then ((sp_tm_upperOf nf l4_12 f27).bind (fun p1 => (kk_3 l1_12 l2_12 l3_12 p1))) else (if l5_12 < 0 then none else if 800 ≤ (l5_12 : Int32).toNatClampNeg then none else (if (f29 (l5_12 : Int32).toNatClampNeg) = (l4_12 - 8) then (if l5_12 < 0 then none else if 800 ≤ (l5_12 : Int32).toNatClampNeg then none else (if (f30 (l5_12 : Int32).toNatClampNeg) ≤ 0 then (if 0 = l3_12 then (if l5_12 < 0 then none else if 800 ≤ (l5_12 : Int32).toNatClampNeg then none else ((sp_tn_isLike nf (f34 (l5_12 : Int32).toNatClampNeg) l2_12 f6 f5 f2).bind (fun p2 => (if p2 = 0 then (lp_tn_memberOf_12 nf n a1 a2 a3 v28 f27 f29 f30 f34 f6 f5 f2 kk_3 l1_12 l2_12 l3_12 l4_12 (l5_12 + 1)) else (some l5_12))))) else (lp_tn_memberOf_12 nf n a1 a2 a3 v28 f27 f29 f30 f34 f6 f5 f2 kk_3 l1_12 l2_12 l3_12 l4_12 (l5_12 + 1))) else (if 1 = l3_12 then (if l5_12 < 0 then none else if 800 ≤ (l5_12 : Int32).toNatClampNeg then none else ((sp_tn_isLike nf (f34 (l5_12 : Int32).toNatClampNeg) l2_12 f6 f5 f2).bind (fun p3 => (if p3 = 0 then (lp_tn_memberOf_12 nf n a1 a2 a3 v28 f27 f29 f30 f34 f6 f5 f2 kk_3 l1_12 l2_12 l3_12 l4_12 (l5_12 + 1)) else (some l5_12))))) else (lp_tn_memberOf_12 nf n a1 a2 a3 v28 f27 f29 f30 f34 f6 f5 f2 kk_3 l1_12 l2_12 l3_12 l4_12 (l5_12 + 1))))) else (lp_tn_memberOf_12 nf n a1 a2 a3 v28 f27 f29 f30 f34 f6 f5 f2 kk_3 l1_12 l2_12 l3_12 l4_12 (l5_12 + 1)))))
def lp_tn_memberOf_3 (nf n : Nat) (a1 : Int32) (a2 : Int32) (a3 : Int32) (v28 : Int32) (f27 : Nat → Int32) (f29 : Nat → Int32) (f30 : Nat → Int32) (f34 : Nat → Int32) (f6 : Nat → Int32) (f5 : Nat → Int32) (f2 : Nat → Int32)  (l1_3 : Int32) (l2_3 : Int32) (l3_3 : Int32) (l4_3 : Int32) : Option (Int32) := match n with
  | 0 => none
  | n + 1 => (if l4_3 = (-1) then (some (-1)) else (lp_tn_memberOf_12 nf nf a1 a2 a3 v28 f27 f29 f30 f34 f6 f5 f2 (lp_tn_memberOf_3 nf n a1 a2 a3 v28 f27 f29 f30 f34 f6 f5 f2) l1_3 l2_3 l3_3 l4_3 0))
def sp_tn_memberOf (nf : Nat) (a1 : Int32) (a2 : Int32) (a3 : Int32) (v28 : Int32) (f27 : Nat → Int32) (f29 : Nat → Int32) (f30 : Nat → Int32) (f34 : Nat → Int32) (f6 : Nat → Int32) (f5 : Nat → Int32) (f2 : Nat → Int32) : Option (Int32) := (lp_tn_memberOf_3 nf nf a1 a2 a3 v28 f27 f29 f30 f34 f6 f5 f2 a1 a2 a3 a1)
set_option maxHeartbeats 4000000 in
set_option maxRecDepth 100000 in
/-- ClassMillModel.memberOf -/
theorem tn_memberOf (l : Launch) (dC : Nat → ClassId) (dI : Nat → Nat → Nat) (sz : Nat) (h0 : Nat) (zs : (List Value)) (a1 : Int32) (a2 : Int32) (a3 : Int32) (qf2 : Nat) (qf5 : Nat) (qf6 : Nat) (qf27 : Nat) (v28 : Int32) (qf29 : Nat) (qf30 : Nat) (qf34 : Nat) (cf27 : ClassId) (f27 : (Nat → Int32)) (cf29 : ClassId) (f29 : (Nat → Int32)) (cf30 : ClassId) (f30 : (Nat → Int32)) (cf34 : ClassId) (f34 : (Nat → Int32)) (cf6 : ClassId) (f6 : (Nat → Int32)) (cf5 : ClassId) (f5 : (Nat → Int32)) (cf2 : ClassId) (f2 : (Nat → Int32)) (nf : Nat) (r0 : Int32) (hlen : zs.length = 155) (hf2 : zs[2]? = some (.ref qf2)) (hf5 : zs[5]? = some (.ref qf5)) (hf6 : zs[6]? = some (.ref qf6)) (hf27 : zs[27]? = some (.ref qf27)) (hf28 : zs[28]? = some (.int v28)) (hf29 : zs[29]? = some (.ref qf29)) (hf30 : zs[30]? = some (.ref qf30)) (hf34 : zs[34]? = some (.ref qf34)) (hsp : sp_tn_memberOf nf a1 a2 a3 v28 f27 f29 f30 f34 f6 f5 f2 = some r0) : Met l yX13_memberOf (.code yX13_memberOf cX13_memberOf 6 (some .int) :: VS_h6) ({ frames := 1, cells := 0, slots := 0, locals := 24 }) (va_Pc [.ref h0, .int a1, .int a2, .int a3] (fun U => U.heap.size = sz ∧ va_P (dC, dI) vwCl [(h0, .inr (13, zs)), (qf27, .inl (cf27, 400, .inl f27)), (qf29, .inl (cf29, 800, .inl f29)), (qf30, .inl (cf30, 800, .inl f30)), (qf34, .inl (cf34, 800, .inl f34)), (qf6, .inl (cf6, 3002, .inl f6)), (qf5, .inl (cf5, 3002, .inl f5)), (qf2, .inl (cf2, 3000, .inl f2))] U.heap ∧ va_K (dC, dI) vwCl [(cf27, .int), (cf29, .int), (cf30, .int), (cf34, .int), (cf6, .int), (cf5, .int), (cf2, .int)] U ∧ va_D (fun _ => True) [(h0, .inr (13, zs)), (qf27, .inl (cf27, 400, .inl f27)), (qf29, .inl (cf29, 800, .inl f29)), (qf30, .inl (cf30, 800, .inl f30)), (qf34, .inl (cf34, 800, .inl f34)), (qf6, .inl (cf6, 3002, .inl f6)), (qf5, .inl (cf5, 3002, .inl f5)), (qf2, .inl (cf2, 3000, .inl f2))])) (va_Qi (fun (r : Int32) (u : (List Value)) => match u with | (zo1) => r0 = r ∧ zo1.length = 155 ∧ (∀ j : Nat, zo1[j]? = zs[j]?)) (fun (u : (List Value)) (t : State) => match u with | (zo1) => va_P (dC, dI) vwCl [(h0, .inr (13, zo1)), (qf27, .inl (cf27, 400, .inl f27)), (qf29, .inl (cf29, 800, .inl f29)), (qf30, .inl (cf30, 800, .inl f30)), (qf34, .inl (cf34, 800, .inl f34)), (qf6, .inl (cf6, 3002, .inl f6)), (qf5, .inl (cf5, 3002, .inl f5)), (qf2, .inl (cf2, 3000, .inl f2))] t.heap ∧ va_K (dC, dI) vwCl [(cf27, .int), (cf29, .int), (cf30, .int), (cf34, .int), (cf6, .int), (cf5, .int), (cf2, .int)] t ∧ va_D (va_A [(h0, .inr (13, zs)), (qf27, .inl (cf27, 400, .inl f27)), (qf29, .inl (cf29, 800, .inl f29)), (qf30, .inl (cf30, 800, .inl f30)), (qf34, .inl (cf34, 800, .inl f34)), (qf6, .inl (cf6, 3002, .inl f6)), (qf5, .inl (cf5, 3002, .inl f5)), (qf2, .inl (cf2, 3000, .inl f2))] sz) [(h0, .inr (13, zo1)), (qf27, .inl (cf27, 400, .inl f27)), (qf29, .inl (cf29, 800, .inl f29)), (qf30, .inl (cf30, 800, .inl f30)), (qf34, .inl (cf34, 800, .inl f34)), (qf6, .inl (cf6, 3002, .inl f6)), (qf5, .inl (cf5, 3002, .inl f5)), (qf2, .inl (cf2, 3000, .inl f2))]) (va_A [(h0, .inr (13, zs)), (qf27, .inl (cf27, 400, .inl f27)), (qf29, .inl (cf29, 800, .inl f29)), (qf30, .inl (cf30, 800, .inl f30)), (qf34, .inl (cf34, 800, .inl f34)), (qf6, .inl (cf6, 3002, .inl f6)), (qf5, .inl (cf5, 3002, .inl f5)), (qf2, .inl (cf2, 3000, .inl f2))] sz)) 0 0 (va_A [(h0, .inr (13, zs)), (qf27, .inl (cf27, 400, .inl f27)), (qf29, .inl (cf29, 800, .inl f29)), (qf30, .inl (cf30, 800, .inl f30)), (qf34, .inl (cf34, 800, .inl f34)), (qf6, .inl (cf6, 3002, .inl f6)), (qf5, .inl (cf5, 3002, .inl f5)), (qf2, .inl (cf2, 3000, .inl f2))] sz) := by
  refine Met.ofW (cc := cX13_memberOf) (maxL := 6) (ret := (some .int)) (by decide) rfl ?_
  intro p e s m args below meth c s₁ B hml hv
  obtain ⟨rfl, hsz, hP, hK, hD0⟩ := hv
  have hx := B.exec
  have hb := B.bytes
  have hr := B.returns
  have hts := atoms_spec (ws := (.code yX13_memberOf cX13_memberOf 6 (some .int) :: VS_h6)) B.pre
  replace hts := fun w (h : w ∈ VS_h6) => hts w (List.mem_cons_of_mem _ h)
  have hown : s.vm.findClass RX13 = some m.cls := findClass_of_methodNamed B.named
  have hlocks := B.notSynchronized
  subst hsz
  have hD := hD0.self (sz := s.heap.size)
  generalize hAe : va_A [(h0, .inr (13, zs)), (qf27, .inl (cf27, 400, .inl f27)), (qf29, .inl (cf29, 800, .inl f29)), (qf30, .inl (cf30, 800, .inl f30)), (qf34, .inl (cf34, 800, .inl f34)), (qf6, .inl (cf6, 3002, .inl f6)), (qf5, .inl (cf5, 3002, .inl f5)), (qf2, .inl (cf2, 3000, .inl f2))] s.heap.size = A at hD  ⊢
  have hA : ∀ q : Nat, s.heap.size ≤ q → A q := fun q h => by rw [← hAe]; exact Or.inr h
  have hP : va_P (dC, dI) vwCl [(h0, .inr (13, zs)), (qf27, .inl (cf27, 400, .inl f27)), (qf29, .inl (cf29, 800, .inl f29)), (qf30, .inl (cf30, 800, .inl f30)), (qf34, .inl (cf34, 800, .inl f34)), (qf6, .inl (cf6, 3002, .inl f6)), (qf5, .inl (cf5, 3002, .inl f5)), (qf2, .inl (cf2, 3000, .inl f2))] s.heap := hP
  have hl := lv_entry ([.ref h0, .int a1, .int a2, .int a3]) (n := 6) (Nat.le_of_ble_eq_true rfl)
  rw [lg_entry_eq]
  generalize (lg_sl ([.ref h0, .int a1, .int a2, .int a3]) ++ List.replicate (6 - (lg_sl ([.ref h0, .int a1, .int a2, .int a3])).length) Slot.unset).toArray = ls at hl ⊢
  have hl : lv_has ls 6 [(0, .ref h0), (1, .int a1), (2, .int a2), (3, .int a3)] := hl
  obtain ⟨H, hH⟩ : ∃ H : Heap, s.heap = H := ⟨_, rfl⟩
  rw [hH] at hP ⊢
  have hS : va_S A s.heap H [] := by rw [← hH]; exact va_S.rf
  obtain ⟨locs, hlo⟩ : ∃ locs : List Loc, locs = [] := ⟨_, rfl⟩
  rw [← hlo] at hS ⊢
  have hrs0 : ∀ j : Nat, zs[j]? = zs[j]? := fun _  => rfl
  unfold sp_tn_memberOf at hsp
  refine lv_iload_n hx hb dX13_memberOf_0 rfl (lv_at hl 1 rfl) ?_
  refine lv_istore (lv' := [(4, .int a1), (0, .ref h0), (1, .int a1), (2, .int a2), (3, .int a3)]) hx hb dX13_memberOf_1 hl (by decide) rfl (fun ls hl => ?_)
  replace hP := hP.sub (ws' := [(h0, .inr (13, zs)), (qf27, .inl (cf27, 400, .inl f27)), (qf29, .inl (cf29, 800, .inl f29)), (qf30, .inl (cf30, 800, .inl f30)), (qf34, .inl (cf34, 800, .inl f34)), (qf6, .inl (cf6, 3002, .inl f6)), (qf5, .inl (cf5, 3002, .inl f5)), (qf2, .inl (cf2, 3000, .inl f2))]) [0, 1, 2, 3, 4, 5, 6, 7] rfl
  replace hD := hD.sub (ws' := [(h0, .inr (13, zs)), (qf27, .inl (cf27, 400, .inl f27)), (qf29, .inl (cf29, 800, .inl f29)), (qf30, .inl (cf30, 800, .inl f30)), (qf34, .inl (cf34, 800, .inl f34)), (qf6, .inl (cf6, 3002, .inl f6)), (qf5, .inl (cf5, 3002, .inl f5)), (qf2, .inl (cf2, 3000, .inl f2))]) [0, 1, 2, 3, 4, 5, 6, 7] (by decide) rfl
  replace hK := hK.sub (tys' := [(cf27, .int), (cf29, .int), (cf30, .int), (cf34, .int), (cf6, .int), (cf5, .int), (cf2, .int)]) [0, 1, 2, 3, 4, 5, 6] rfl
  obtain ⟨n_3, hn_3⟩ : ∃ z : Nat, z = nf := ⟨_, rfl⟩
  obtain ⟨z3, ez3⟩ : ∃ z : List Value, z = zs := ⟨_, rfl⟩
  obtain ⟨l1_3, el1_3⟩ : ∃ z : Int32, z = a1 := ⟨_, rfl⟩
  obtain ⟨l2_3, el2_3⟩ : ∃ z : Int32, z = a2 := ⟨_, rfl⟩
  obtain ⟨l3_3, el3_3⟩ : ∃ z : Int32, z = a3 := ⟨_, rfl⟩
  obtain ⟨l4_3, el4_3⟩ : ∃ z : Int32, z = a1 := ⟨_, rfl⟩
  replace hsp : lp_tn_memberOf_3 nf n_3 a1 a2 a3 v28 f27 f29 f30 f34 f6 f5 f2 l1_3 l2_3 l3_3 l4_3 = some r0 := by rw [hn_3, el1_3, el2_3, el3_3, el4_3]; exact hsp
  replace hl : lv_has ls 6 [(4, .int l4_3), (0, .ref h0), (1, .int l1_3), (2, .int l2_3), (3, .int l3_3)] := by rw [el1_3, el2_3, el3_3, el4_3]; exact hl
  have hfh_3_2 : z3[2]? = some (.ref qf2) := by rw [ez3]; exact hf2
  have hfh_3_5 : z3[5]? = some (.ref qf5) := by rw [ez3]; exact hf5
  have hfh_3_6 : z3[6]? = some (.ref qf6) := by rw [ez3]; exact hf6
  have hfh_3_27 : z3[27]? = some (.ref qf27) := by rw [ez3]; exact hf27
  have hfh_3_28 : z3[28]? = some (.int v28) := by rw [ez3]; exact hf28
  have hfh_3_29 : z3[29]? = some (.ref qf29) := by rw [ez3]; exact hf29
  have hfh_3_30 : z3[30]? = some (.ref qf30) := by rw [ez3]; exact hf30
  have hfh_3_34 : z3[34]? = some (.ref qf34) := by rw [ez3]; exact hf34
  have hlh_3 : z3.length = 155 := by rw [ez3]; exact hlen
  have hrh_3 : ∀ j : Nat, z3[j]? = zs[j]? := by rw [ez3]; exact hrs0
  replace hP : va_P (dC, dI) vwCl [(h0, .inr (13, z3)), (qf27, .inl (cf27, 400, .inl f27)), (qf29, .inl (cf29, 800, .inl f29)), (qf30, .inl (cf30, 800, .inl f30)), (qf34, .inl (cf34, 800, .inl f34)), (qf6, .inl (cf6, 3002, .inl f6)), (qf5, .inl (cf5, 3002, .inl f5)), (qf2, .inl (cf2, 3000, .inl f2))] H := by rw [ez3]; exact hP
  replace hD : va_D A [(h0, .inr (13, z3)), (qf27, .inl (cf27, 400, .inl f27)), (qf29, .inl (cf29, 800, .inl f29)), (qf30, .inl (cf30, 800, .inl f30)), (qf34, .inl (cf34, 800, .inl f34)), (qf6, .inl (cf6, 3002, .inl f6)), (qf5, .inl (cf5, 3002, .inl f5)), (qf2, .inl (cf2, 3000, .inl f2))] := by rw [ez3]; exact hD
  clear hn_3 ez3 el1_3 el2_3 el3_3 el4_3
  try clear hlo
  try clear hH
  revert hsp
  revert hP
  revert hD
  revert hS
  revert hl
  revert hrh_3
  revert hlh_3
  revert hfh_3_34
  revert hfh_3_30
  revert hfh_3_29
  revert hfh_3_28
  revert hfh_3_27
  revert hfh_3_6
  revert hfh_3_5
  revert hfh_3_2
  revert l4_3
  revert l3_3
  revert l2_3
  revert l1_3
  revert z3
  revert ls
  revert locs
  revert H
  induction n_3 with
  | zero => intro H locs ls z3 l1_3 l2_3 l3_3 l4_3 hfh_3_2 hfh_3_5 hfh_3_6 hfh_3_27 hfh_3_28 hfh_3_29 hfh_3_30 hfh_3_34 hlh_3 hrh_3 hl hS hD hP hsp; unfold lp_tn_memberOf_3 at hsp; cases hsp
  | succ n_3 ih_3 =>
    intro H locs ls z3 l1_3 l2_3 l3_3 l4_3 hfh_3_2 hfh_3_5 hfh_3_6 hfh_3_27 hfh_3_28 hfh_3_29 hfh_3_30 hfh_3_34 hlh_3 hrh_3 hl hS hD hP hsp
    unfold lp_tn_memberOf_3 at hsp
    try dsimp only at hsp
    refine lv_iload hx hb dX13_memberOf_3 (lv_at hl 0 rfl) ?_
    refine lv_iconst (v := (-1)) hx hb dX13_memberOf_5 (by decide) ?_
    refine lv_icmp_eq (tgt := 90) hx hb dX13_memberOf_6 (by decide) (fun c_1 => ?_) (fun c_1 => ?_)
    · rw [if_pos c_1] at hsp
      refine lv_iconst (v := (-1)) hx hb dX13_memberOf_90 (by decide) ?_
      have hr0 := Option.some.inj hsp
      clear hsp
      subst hr0
      have hP9 := hP.sub (ws' := [(h0, .inr (13, z3)), (qf27, .inl (cf27, 400, .inl f27)), (qf29, .inl (cf29, 800, .inl f29)), (qf30, .inl (cf30, 800, .inl f30)), (qf34, .inl (cf34, 800, .inl f34)), (qf6, .inl (cf6, 3002, .inl f6)), (qf5, .inl (cf5, 3002, .inl f5)), (qf2, .inl (cf2, 3000, .inl f2))]) [0, 1, 2, 3, 4, 5, 6, 7] rfl
      have hD9 := hD.sub (ws' := [(h0, .inr (13, z3)), (qf27, .inl (cf27, 400, .inl f27)), (qf29, .inl (cf29, 800, .inl f29)), (qf30, .inl (cf30, 800, .inl f30)), (qf34, .inl (cf34, 800, .inl f34)), (qf6, .inl (cf6, 3002, .inl f6)), (qf5, .inl (cf5, 3002, .inl f5)), (qf2, .inl (cf2, 3000, .inl f2))]) [0, 1, 2, 3, 4, 5, 6, 7] (by decide) rfl
      have hK9 := hK.sub (tys' := [(cf27, .int), (cf29, .int), (cf30, .int), (cf34, .int), (cf6, .int), (cf5, .int), (cf2, .int)]) [0, 1, 2, 3, 4, 5, 6] rfl
      exact W.iret hx hb hr (fun t ht hW => ⟨⟨((-1)), (z3), rfl, ⟨rfl, hlh_3, hrh_3⟩, by rw [ht]; exact hP9, va_K.moved hW.alike hK9, hD9⟩, hS.F ht⟩) hS.2.2 dX13_memberOf_91
    · rw [if_neg c_1] at hsp
      refine lv_iconst (v := 0) hx hb dX13_memberOf_9 (by decide) ?_
      refine lv_istore (lv' := [(5, .int 0), (4, .int l4_3), (0, .ref h0), (1, .int l1_3), (2, .int l2_3), (3, .int l3_3)]) hx hb dX13_memberOf_10 hl (by decide) rfl (fun ls hl => ?_)
      replace hP := hP.sub (ws' := [(h0, .inr (13, z3)), (qf27, .inl (cf27, 400, .inl f27)), (qf29, .inl (cf29, 800, .inl f29)), (qf30, .inl (cf30, 800, .inl f30)), (qf34, .inl (cf34, 800, .inl f34)), (qf6, .inl (cf6, 3002, .inl f6)), (qf5, .inl (cf5, 3002, .inl f5)), (qf2, .inl (cf2, 3000, .inl f2))]) [0, 1, 2, 3, 4, 5, 6, 7] rfl
      replace hD := hD.sub (ws' := [(h0, .inr (13, z3)), (qf27, .inl (cf27, 400, .inl f27)), (qf29, .inl (cf29, 800, .inl f29)), (qf30, .inl (cf30, 800, .inl f30)), (qf34, .inl (cf34, 800, .inl f34)), (qf6, .inl (cf6, 3002, .inl f6)), (qf5, .inl (cf5, 3002, .inl f5)), (qf2, .inl (cf2, 3000, .inl f2))]) [0, 1, 2, 3, 4, 5, 6, 7] (by decide) rfl
      replace hK := hK.sub (tys' := [(cf27, .int), (cf29, .int), (cf30, .int), (cf34, .int), (cf6, .int), (cf5, .int), (cf2, .int)]) [0, 1, 2, 3, 4, 5, 6] rfl
      obtain ⟨n_12, hn_12⟩ : ∃ z : Nat, z = nf := ⟨_, rfl⟩
      obtain ⟨z12, ez12⟩ : ∃ z : List Value, z = z3 := ⟨_, rfl⟩
      obtain ⟨l1_12, el1_12⟩ : ∃ z : Int32, z = l1_3 := ⟨_, rfl⟩
      obtain ⟨l2_12, el2_12⟩ : ∃ z : Int32, z = l2_3 := ⟨_, rfl⟩
      obtain ⟨l3_12, el3_12⟩ : ∃ z : Int32, z = l3_3 := ⟨_, rfl⟩
      obtain ⟨l4_12, el4_12⟩ : ∃ z : Int32, z = l4_3 := ⟨_, rfl⟩
      obtain ⟨l5_12, el5_12⟩ : ∃ z : Int32, z = 0 := ⟨_, rfl⟩
      replace hsp : lp_tn_memberOf_12 nf n_12 a1 a2 a3 v28 f27 f29 f30 f34 f6 f5 f2 (lp_tn_memberOf_3 nf n_3 a1 a2 a3 v28 f27 f29 f30 f34 f6 f5 f2) l1_12 l2_12 l3_12 l4_12 l5_12 = some r0 := by rw [hn_12, el1_12, el2_12, el3_12, el4_12, el5_12]; exact hsp
      replace hl : lv_has ls 6 [(5, .int l5_12), (4, .int l4_12), (0, .ref h0), (1, .int l1_12), (2, .int l2_12), (3, .int l3_12)] := by rw [el1_12, el2_12, el3_12, el4_12, el5_12]; exact hl
      have hfh_12_2 : z12[2]? = some (.ref qf2) := by rw [ez12]; exact hfh_3_2
      have hfh_12_5 : z12[5]? = some (.ref qf5) := by rw [ez12]; exact hfh_3_5
      have hfh_12_6 : z12[6]? = some (.ref qf6) := by rw [ez12]; exact hfh_3_6
      have hfh_12_27 : z12[27]? = some (.ref qf27) := by rw [ez12]; exact hfh_3_27
      have hfh_12_28 : z12[28]? = some (.int v28) := by rw [ez12]; exact hfh_3_28
      have hfh_12_29 : z12[29]? = some (.ref qf29) := by rw [ez12]; exact hfh_3_29
      have hfh_12_30 : z12[30]? = some (.ref qf30) := by rw [ez12]; exact hfh_3_30
      have hfh_12_34 : z12[34]? = some (.ref qf34) := by rw [ez12]; exact hfh_3_34
      have hlh_12 : z12.length = 155 := by rw [ez12]; exact hlh_3
      have hrh_12 : ∀ j : Nat, z12[j]? = zs[j]? := by rw [ez12]; exact hrh_3
      replace hP : va_P (dC, dI) vwCl [(h0, .inr (13, z12)), (qf27, .inl (cf27, 400, .inl f27)), (qf29, .inl (cf29, 800, .inl f29)), (qf30, .inl (cf30, 800, .inl f30)), (qf34, .inl (cf34, 800, .inl f34)), (qf6, .inl (cf6, 3002, .inl f6)), (qf5, .inl (cf5, 3002, .inl f5)), (qf2, .inl (cf2, 3000, .inl f2))] H := by rw [ez12]; exact hP
      replace hD : va_D A [(h0, .inr (13, z12)), (qf27, .inl (cf27, 400, .inl f27)), (qf29, .inl (cf29, 800, .inl f29)), (qf30, .inl (cf30, 800, .inl f30)), (qf34, .inl (cf34, 800, .inl f34)), (qf6, .inl (cf6, 3002, .inl f6)), (qf5, .inl (cf5, 3002, .inl f5)), (qf2, .inl (cf2, 3000, .inl f2))] := by rw [ez12]; exact hD
      clear hn_12 ez12 el1_12 el2_12 el3_12 el4_12 el5_12
      try clear hlo
      try clear hH
      revert hsp
      revert hP
      revert hD
      revert hS
      revert hl
      revert hrh_12
      revert hlh_12
      revert hfh_12_34
      revert hfh_12_30
      revert hfh_12_29
      revert hfh_12_28
      revert hfh_12_27
      revert hfh_12_6
      revert hfh_12_5
      revert hfh_12_2
      revert l5_12
      revert l4_12
      revert l3_12
      revert l2_12
      revert l1_12
      revert z12
      revert ls
      revert locs
      revert H
      induction n_12 with
      | zero => intro H locs ls z12 l1_12 l2_12 l3_12 l4_12 l5_12 hfh_12_2 hfh_12_5 hfh_12_6 hfh_12_27 hfh_12_28 hfh_12_29 hfh_12_30 hfh_12_34 hlh_12 hrh_12 hl hS hD hP hsp; unfold lp_tn_memberOf_12 at hsp; cases hsp
      | succ n_12 ih_12 =>
        intro H locs ls z12 l1_12 l2_12 l3_12 l4_12 l5_12 hfh_12_2 hfh_12_5 hfh_12_6 hfh_12_27 hfh_12_28 hfh_12_29 hfh_12_30 hfh_12_34 hlh_12 hrh_12 hl hS hD hP hsp
        unfold lp_tn_memberOf_12 at hsp
        try dsimp only at hsp
        refine lv_iload hx hb dX13_memberOf_12 (lv_at hl 0 rfl) ?_
        refine lv_aload_n hx hb dX13_memberOf_14 rfl (lv_at hl 2 rfl) ?_
        refine va_get (D := (dC, dI)) (ci := 13) (v := .int v28) (C := RX13) (T := TX13) (N := 155) hx hb hts uV_h6_X13 hown hK hP 0 rfl rfl 28 (by decide) (hts (.fieldLink RX13 412 "ClassMillModel" "members" "I") mw_h6_39) (fun _ h9 => h9) hfh_12_28 dX13_memberOf_15 ?_
        refine lv_icmp_ge (tgt := 79) hx hb dX13_memberOf_18 (by decide) (fun c_2 => ?_) (fun c_2 => ?_)
        · rw [if_pos c_2] at hsp
          refine lv_aload_n hx hb dX13_memberOf_79 rfl (lv_at hl 2 rfl) ?_
          refine lv_iload hx hb dX13_memberOf_80 (lv_at hl 1 rfl) ?_
          obtain ⟨u1_0, hu_1, hsp⟩ := ox_bind hsp
          try dsimp only at hsp
          have hPc := hP.sub (ws' := [(h0, .inr (13, z12)), (qf27, .inl (cf27, 400, .inl f27))]) [0, 1] rfl
          have hDc := hD.sub (ws' := [(h0, .inr (13, z12)), (qf27, .inl (cf27, 400, .inl f27))]) [0, 1] (by decide) rfl
          have hKc := hK.sub (tys' := [(cf27, .int)]) [0] rfl
          have hFc := va_free (wc := [(h0, .inr (13, z12)), (qf27, .inl (cf27, 400, .inl f27))]) hD hS hA [0, 1] rfl
          refine va_calli (va_runV (As := [.int l4_12]) (rest := []) ⟨hx, hb, hml, hown, hts⟩ (tm_upperOf l dC dI H.size h0 z12 l4_12 qf27 cf27 f27 nf u1_0 hlh_12 hfh_12_27 hu_1) (cwV 1 hts gv_h6_3 rfl rfl rfl (by decide +kernel) ⟨Nat.le_of_ble_eq_true rfl, Nat.le_of_ble_eq_true rfl⟩) ⟨fun a U g mk q => by obtain ⟨q0, q1, qP, qK, qD⟩ := q; exact ⟨q0, q1, qP, va_K.moved (u := U) (U := U.calling g mk a) (Vm.Alike.refl U.vm) qK, qD⟩, va_recv hKc hPc (ci := 13) (q0 := 0) rfl rfl, fun U hU hW => ⟨rfl, by rw [hU], by rw [hU]; exact hPc, va_K.moved hW.alike hKc, hDc.weaken (fun _ _ _ _ => trivial)⟩⟩ rfl rfl hl.1 rfl (lv_room (Nat.le_of_ble_eq_true rfl)) dX13_memberOf_82 ⟨Nat.le_of_ble_eq_true rfl, Nat.le_of_ble_eq_true rfl⟩) hS (fun q _ h => hFc q h) hFc ?_
          clear hS
          intro r_3 u t H1 locs ht hvm hw hB hz1 hk1 hS
          obtain ⟨z_1, rfl⟩ : ∃ z, z = u := ⟨_, rfl⟩
          obtain ⟨hP1, hK1, hD1⟩ := hB
          rw [ht] at hP1
          have hK1 := va_K.moved hvm.symm hK1
          try dsimp only at hw
          have hPD := va_join (wr := [(qf29, .inl (cf29, 800, .inl f29)), (qf30, .inl (cf30, 800, .inl f30)), (qf34, .inl (cf34, 800, .inl f34)), (qf6, .inl (cf6, 3002, .inl f6)), (qf5, .inl (cf5, 3002, .inl f5)), (qf2, .inl (cf2, 3000, .inl f2))]) (w1 := [(h0, .inr (13, z_1)), (qf27, .inl (cf27, 400, .inl f27))]) hP hD [0, 1] [2, 3, 4, 5, 6, 7] rfl rfl (by decide) (by decide) hk1 hFc hP1 hD1
          clear hP hD
          obtain ⟨hP, hD⟩ := hPD
          replace hK := (hK.sub (tys' := [(cf29, .int), (cf30, .int), (cf34, .int), (cf6, .int), (cf5, .int), (cf2, .int)]) [1, 2, 3, 4, 5, 6] rfl).app hK1
          clear hPc hDc hKc hFc hP1 hK1 hD1 hz1 hk1 ht hvm
          generalize H1 = H at hP hS ⊢
          replace hP : va_P (dC, dI) vwCl [(qf29, .inl (cf29, 800, .inl f29)), (qf30, .inl (cf30, 800, .inl f30)), (qf34, .inl (cf34, 800, .inl f34)), (qf6, .inl (cf6, 3002, .inl f6)), (qf5, .inl (cf5, 3002, .inl f5)), (qf2, .inl (cf2, 3000, .inl f2)), (h0, .inr (13, z_1)), (qf27, .inl (cf27, 400, .inl f27))] H := hP
          replace hD : va_D A [(qf29, .inl (cf29, 800, .inl f29)), (qf30, .inl (cf30, 800, .inl f30)), (qf34, .inl (cf34, 800, .inl f34)), (qf6, .inl (cf6, 3002, .inl f6)), (qf5, .inl (cf5, 3002, .inl f5)), (qf2, .inl (cf2, 3000, .inl f2)), (h0, .inr (13, z_1)), (qf27, .inl (cf27, 400, .inl f27))] := hD
          replace hK : va_K (dC, dI) vwCl [(cf29, .int), (cf30, .int), (cf34, .int), (cf6, .int), (cf5, .int), (cf2, .int), (cf27, .int)] s := hK
          obtain ⟨hwa_1, hln_1, hre_1⟩ := hw
          have hfk_1_2 : z_1[2]? = some (.ref qf2) := (hre_1 2 ).trans (hfh_12_2)
          have hfk_1_5 : z_1[5]? = some (.ref qf5) := (hre_1 5 ).trans (hfh_12_5)
          have hfk_1_6 : z_1[6]? = some (.ref qf6) := (hre_1 6 ).trans (hfh_12_6)
          have hfk_1_27 : z_1[27]? = some (.ref qf27) := (hre_1 27 ).trans (hfh_12_27)
          have hfk_1_28 : z_1[28]? = some (.int v28) := (hre_1 28 ).trans (hfh_12_28)
          have hfk_1_29 : z_1[29]? = some (.ref qf29) := (hre_1 29 ).trans (hfh_12_29)
          have hfk_1_30 : z_1[30]? = some (.ref qf30) := (hre_1 30 ).trans (hfh_12_30)
          have hfk_1_34 : z_1[34]? = some (.ref qf34) := (hre_1 34 ).trans (hfh_12_34)
          have hrq_1 : ∀ j : Nat, z_1[j]? = zs[j]? := fun j  => (hre_1 j ).trans (hrh_12 j )
          obtain rfl := hwa_1
          refine lv_istore (lv' := [(4, .int u1_0), (5, .int l5_12), (0, .ref h0), (1, .int l1_12), (2, .int l2_12), (3, .int l3_12)]) hx hb dX13_memberOf_85 hl (by decide) rfl (fun ls hl => ?_)
          refine lv_goto (tgt := 3) hx hb dX13_memberOf_87 (by decide) ?_
          exact ih_3 H locs ls z_1 l1_12 l2_12 l3_12 u1_0 (hfk_1_2) (hfk_1_5) (hfk_1_6) (hfk_1_27) (hfk_1_28) (hfk_1_29) (hfk_1_30) (hfk_1_34) hln_1 hrq_1 (lv_sub hl [0, 2, 3, 4, 5] rfl) hS (hD.sub (ws' := [(h0, .inr (13, z_1)), (qf27, .inl (cf27, 400, .inl f27)), (qf29, .inl (cf29, 800, .inl f29)), (qf30, .inl (cf30, 800, .inl f30)), (qf34, .inl (cf34, 800, .inl f34)), (qf6, .inl (cf6, 3002, .inl f6)), (qf5, .inl (cf5, 3002, .inl f5)), (qf2, .inl (cf2, 3000, .inl f2))]) [6, 7, 0, 1, 2, 3, 4, 5] (by decide) rfl) (hP.sub (ws' := [(h0, .inr (13, z_1)), (qf27, .inl (cf27, 400, .inl f27)), (qf29, .inl (cf29, 800, .inl f29)), (qf30, .inl (cf30, 800, .inl f30)), (qf34, .inl (cf34, 800, .inl f34)), (qf6, .inl (cf6, 3002, .inl f6)), (qf5, .inl (cf5, 3002, .inl f5)), (qf2, .inl (cf2, 3000, .inl f2))]) [6, 7, 0, 1, 2, 3, 4, 5] rfl) hsp
        · rw [if_neg c_2] at hsp
          refine lv_aload_n hx hb dX13_memberOf_21 rfl (lv_at hl 2 rfl) ?_
          refine va_get (D := (dC, dI)) (ci := 13) (v := .ref qf29) (C := RX13) (T := TX13) (N := 155) hx hb hts uV_h6_X13 hown hK hP 0 rfl rfl 29 (by decide) (hts (.fieldLink RX13 71 "ClassMillModel" "memberClass" "[I") mw_h6_40) (fun _ h9 => h9) hfh_12_29 dX13_memberOf_22 ?_
          refine lv_iload hx hb dX13_memberOf_25 (lv_at hl 0 rfl) ?_
          obtain ⟨hi_4, hsp⟩ := ox_in hsp
          refine va_iald hx hb hK hP 2 1 rfl rfl (i := l5_12) hi_4 dX13_memberOf_27 ?_
          refine lv_iload hx hb dX13_memberOf_28 (lv_at hl 1 rfl) ?_
          refine lv_bipush (v := 8) hx hb dX13_memberOf_30 (by decide) ?_
          refine lv_isub hx hb dX13_memberOf_32 ?_
          refine lv_icmp_ne (tgt := 73) hx hb dX13_memberOf_33 (by decide) (fun c_5 => ?_) (fun c_5 => ?_)
          · rw [if_neg c_5] at hsp
            refine lv_iinc (v := (l5_12 + 1)) (lv' := [(5, .int (l5_12 + 1)), (4, .int l4_12), (0, .ref h0), (1, .int l1_12), (2, .int l2_12), (3, .int l3_12)]) hx hb dX13_memberOf_73 hl (k := 0) rfl rfl (by decide) rfl (fun ls hl => ?_)
            refine lv_goto (tgt := 12) hx hb dX13_memberOf_76 (by decide) ?_
            exact ih_12 H locs ls z12 l1_12 l2_12 l3_12 l4_12 (l5_12 + 1) (hfh_12_2) (hfh_12_5) (hfh_12_6) (hfh_12_27) (hfh_12_28) (hfh_12_29) (hfh_12_30) (hfh_12_34) hlh_12 hrh_12 (lv_sub hl [0, 1, 2, 3, 4, 5] rfl) hS (hD.sub (ws' := [(h0, .inr (13, z12)), (qf27, .inl (cf27, 400, .inl f27)), (qf29, .inl (cf29, 800, .inl f29)), (qf30, .inl (cf30, 800, .inl f30)), (qf34, .inl (cf34, 800, .inl f34)), (qf6, .inl (cf6, 3002, .inl f6)), (qf5, .inl (cf5, 3002, .inl f5)), (qf2, .inl (cf2, 3000, .inl f2))]) [0, 1, 2, 3, 4, 5, 6, 7] (by decide) rfl) (hP.sub (ws' := [(h0, .inr (13, z12)), (qf27, .inl (cf27, 400, .inl f27)), (qf29, .inl (cf29, 800, .inl f29)), (qf30, .inl (cf30, 800, .inl f30)), (qf34, .inl (cf34, 800, .inl f34)), (qf6, .inl (cf6, 3002, .inl f6)), (qf5, .inl (cf5, 3002, .inl f5)), (qf2, .inl (cf2, 3000, .inl f2))]) [0, 1, 2, 3, 4, 5, 6, 7] rfl) hsp
          · rw [if_pos c_5] at hsp
            refine lv_aload_n hx hb dX13_memberOf_36 rfl (lv_at hl 2 rfl) ?_
            refine va_get (D := (dC, dI)) (ci := 13) (v := .ref qf30) (C := RX13) (T := TX13) (N := 155) hx hb hts uV_h6_X13 hown hK hP 0 rfl rfl 30 (by decide) (hts (.fieldLink RX13 74 "ClassMillModel" "memberSort" "[I") mw_h6_41) (fun _ h9 => h9) hfh_12_30 dX13_memberOf_37 ?_
            refine lv_iload hx hb dX13_memberOf_40 (lv_at hl 0 rfl) ?_
            obtain ⟨hi_6, hsp⟩ := ox_in hsp
            refine va_iald hx hb hK hP 3 2 rfl rfl (i := l5_12) hi_6 dX13_memberOf_42 ?_
            refine lv_if_le (tgt := 50) hx hb dX13_memberOf_43 (by decide) (fun c_7 => ?_) (fun c_7 => ?_)
            · rw [if_pos c_7] at hsp
              refine lv_iconst (v := 0) hx hb dX13_memberOf_50 (by decide) ?_
              refine lv_iload_n hx hb dX13_memberOf_51 rfl (lv_at hl 5 rfl) ?_
              refine lv_icmp_ne (tgt := 73) hx hb dX13_memberOf_52 (by decide) (fun c_8 => ?_) (fun c_8 => ?_)
              · rw [if_neg c_8] at hsp
                refine lv_iinc (v := (l5_12 + 1)) (lv' := [(5, .int (l5_12 + 1)), (4, .int l4_12), (0, .ref h0), (1, .int l1_12), (2, .int l2_12), (3, .int l3_12)]) hx hb dX13_memberOf_73 hl (k := 0) rfl rfl (by decide) rfl (fun ls hl => ?_)
                refine lv_goto (tgt := 12) hx hb dX13_memberOf_76 (by decide) ?_
                exact ih_12 H locs ls z12 l1_12 l2_12 l3_12 l4_12 (l5_12 + 1) (hfh_12_2) (hfh_12_5) (hfh_12_6) (hfh_12_27) (hfh_12_28) (hfh_12_29) (hfh_12_30) (hfh_12_34) hlh_12 hrh_12 (lv_sub hl [0, 1, 2, 3, 4, 5] rfl) hS (hD.sub (ws' := [(h0, .inr (13, z12)), (qf27, .inl (cf27, 400, .inl f27)), (qf29, .inl (cf29, 800, .inl f29)), (qf30, .inl (cf30, 800, .inl f30)), (qf34, .inl (cf34, 800, .inl f34)), (qf6, .inl (cf6, 3002, .inl f6)), (qf5, .inl (cf5, 3002, .inl f5)), (qf2, .inl (cf2, 3000, .inl f2))]) [0, 1, 2, 3, 4, 5, 6, 7] (by decide) rfl) (hP.sub (ws' := [(h0, .inr (13, z12)), (qf27, .inl (cf27, 400, .inl f27)), (qf29, .inl (cf29, 800, .inl f29)), (qf30, .inl (cf30, 800, .inl f30)), (qf34, .inl (cf34, 800, .inl f34)), (qf6, .inl (cf6, 3002, .inl f6)), (qf5, .inl (cf5, 3002, .inl f5)), (qf2, .inl (cf2, 3000, .inl f2))]) [0, 1, 2, 3, 4, 5, 6, 7] rfl) hsp
              · rw [if_pos c_8] at hsp
                refine lv_aload_n hx hb dX13_memberOf_55 rfl (lv_at hl 2 rfl) ?_
                refine lv_aload_n hx hb dX13_memberOf_56 rfl (lv_at hl 2 rfl) ?_
                refine va_get (D := (dC, dI)) (ci := 13) (v := .ref qf34) (C := RX13) (T := TX13) (N := 155) hx hb hts uV_h6_X13 hown hK hP 0 rfl rfl 34 (by decide) (hts (.fieldLink RX13 86 "ClassMillModel" "memberName" "[I") mw_h6_42) (fun _ h9 => h9) hfh_12_34 dX13_memberOf_57 ?_
                refine lv_iload hx hb dX13_memberOf_60 (lv_at hl 0 rfl) ?_
                obtain ⟨hi_9, hsp⟩ := ox_in hsp
                refine va_iald hx hb hK hP 4 3 rfl rfl (i := l5_12) hi_9 dX13_memberOf_62 ?_
                refine lv_iload_n hx hb dX13_memberOf_63 rfl (lv_at hl 4 rfl) ?_
                obtain ⟨u2_0, hu_2, hsp⟩ := ox_bind hsp
                try dsimp only at hsp
                have hPc := hP.sub (ws' := [(h0, .inr (13, z12)), (qf6, .inl (cf6, 3002, .inl f6)), (qf5, .inl (cf5, 3002, .inl f5)), (qf2, .inl (cf2, 3000, .inl f2))]) [0, 5, 6, 7] rfl
                have hDc := hD.sub (ws' := [(h0, .inr (13, z12)), (qf6, .inl (cf6, 3002, .inl f6)), (qf5, .inl (cf5, 3002, .inl f5)), (qf2, .inl (cf2, 3000, .inl f2))]) [0, 5, 6, 7] (by decide) rfl
                have hKc := hK.sub (tys' := [(cf6, .int), (cf5, .int), (cf2, .int)]) [4, 5, 6] rfl
                have hFc := va_free (wc := [(h0, .inr (13, z12)), (qf6, .inl (cf6, 3002, .inl f6)), (qf5, .inl (cf5, 3002, .inl f5)), (qf2, .inl (cf2, 3000, .inl f2))]) hD hS hA [0, 5, 6, 7] rfl
                refine va_calli (va_runV (As := [.int (f34 (l5_12 : Int32).toNatClampNeg), .int l2_12]) (rest := []) ⟨hx, hb, hml, hown, hts⟩ (tn_isLike l dC dI H.size h0 z12 ((f34 (l5_12 : Int32).toNatClampNeg)) l2_12 qf2 qf5 qf6 cf6 f6 cf5 f5 cf2 f2 nf u2_0 hlh_12 hfh_12_2 hfh_12_5 hfh_12_6 hu_2) (cwV 2 hts gv_h6_7 rfl rfl rfl (by decide +kernel) ⟨Nat.le_of_ble_eq_true rfl, Nat.le_of_ble_eq_true rfl⟩) ⟨fun a U g mk q => by obtain ⟨q0, q1, qP, qK, qD⟩ := q; exact ⟨q0, q1, qP, va_K.moved (u := U) (U := U.calling g mk a) (Vm.Alike.refl U.vm) qK, qD⟩, va_recv hKc hPc (ci := 13) (q0 := 0) rfl rfl, fun U hU hW => ⟨rfl, by rw [hU], by rw [hU]; exact hPc, va_K.moved hW.alike hKc, hDc.weaken (fun _ _ _ _ => trivial)⟩⟩ rfl rfl hl.1 rfl (lv_room (Nat.le_of_ble_eq_true rfl)) dX13_memberOf_64 ⟨Nat.le_of_ble_eq_true rfl, Nat.le_of_ble_eq_true rfl⟩) hS (fun q _ h => hFc q h) hFc ?_
                clear hS
                intro r_10 u t H1 locs ht hvm hw hB hz1 hk1 hS
                obtain ⟨z_2, rfl⟩ : ∃ z, z = u := ⟨_, rfl⟩
                obtain ⟨hP1, hK1, hD1⟩ := hB
                rw [ht] at hP1
                have hK1 := va_K.moved hvm.symm hK1
                try dsimp only at hw
                have hPD := va_join (wr := [(qf27, .inl (cf27, 400, .inl f27)), (qf29, .inl (cf29, 800, .inl f29)), (qf30, .inl (cf30, 800, .inl f30)), (qf34, .inl (cf34, 800, .inl f34))]) (w1 := [(h0, .inr (13, z_2)), (qf6, .inl (cf6, 3002, .inl f6)), (qf5, .inl (cf5, 3002, .inl f5)), (qf2, .inl (cf2, 3000, .inl f2))]) hP hD [0, 5, 6, 7] [1, 2, 3, 4] rfl rfl (by decide) (by decide) hk1 hFc hP1 hD1
                clear hP hD
                obtain ⟨hP, hD⟩ := hPD
                replace hK := (hK.sub (tys' := [(cf27, .int), (cf29, .int), (cf30, .int), (cf34, .int)]) [0, 1, 2, 3] rfl).app hK1
                clear hPc hDc hKc hFc hP1 hK1 hD1 hz1 hk1 ht hvm
                generalize H1 = H at hP hS ⊢
                replace hP : va_P (dC, dI) vwCl [(qf27, .inl (cf27, 400, .inl f27)), (qf29, .inl (cf29, 800, .inl f29)), (qf30, .inl (cf30, 800, .inl f30)), (qf34, .inl (cf34, 800, .inl f34)), (h0, .inr (13, z_2)), (qf6, .inl (cf6, 3002, .inl f6)), (qf5, .inl (cf5, 3002, .inl f5)), (qf2, .inl (cf2, 3000, .inl f2))] H := hP
                replace hD : va_D A [(qf27, .inl (cf27, 400, .inl f27)), (qf29, .inl (cf29, 800, .inl f29)), (qf30, .inl (cf30, 800, .inl f30)), (qf34, .inl (cf34, 800, .inl f34)), (h0, .inr (13, z_2)), (qf6, .inl (cf6, 3002, .inl f6)), (qf5, .inl (cf5, 3002, .inl f5)), (qf2, .inl (cf2, 3000, .inl f2))] := hD
                replace hK : va_K (dC, dI) vwCl [(cf27, .int), (cf29, .int), (cf30, .int), (cf34, .int), (cf6, .int), (cf5, .int), (cf2, .int)] s := hK
                obtain ⟨hwa_2, hln_2, hre_2⟩ := hw
                have hfk_2_2 : z_2[2]? = some (.ref qf2) := (hre_2 2 ).trans (hfh_12_2)
                have hfk_2_5 : z_2[5]? = some (.ref qf5) := (hre_2 5 ).trans (hfh_12_5)
                have hfk_2_6 : z_2[6]? = some (.ref qf6) := (hre_2 6 ).trans (hfh_12_6)
                have hfk_2_27 : z_2[27]? = some (.ref qf27) := (hre_2 27 ).trans (hfh_12_27)
                have hfk_2_28 : z_2[28]? = some (.int v28) := (hre_2 28 ).trans (hfh_12_28)
                have hfk_2_29 : z_2[29]? = some (.ref qf29) := (hre_2 29 ).trans (hfh_12_29)
                have hfk_2_30 : z_2[30]? = some (.ref qf30) := (hre_2 30 ).trans (hfh_12_30)
                have hfk_2_34 : z_2[34]? = some (.ref qf34) := (hre_2 34 ).trans (hfh_12_34)
                have hrq_2 : ∀ j : Nat, z_2[j]? = zs[j]? := fun j  => (hre_2 j ).trans (hrh_12 j )
                obtain ⟨rfl, hz_2⟩ := hwa_2
                rcases hz_2 with rfl | rfl
                · rw [if_pos rfl] at hsp
                  refine lv_if_eq (tgt := 73) hx hb dX13_memberOf_67 (by decide) (fun c_11 => ?_) (fun c_11 => (show False by revert c_11; decide).elim)
                  refine lv_iinc (v := (l5_12 + 1)) (lv' := [(5, .int (l5_12 + 1)), (4, .int l4_12), (0, .ref h0), (1, .int l1_12), (2, .int l2_12), (3, .int l3_12)]) hx hb dX13_memberOf_73 hl (k := 0) rfl rfl (by decide) rfl (fun ls hl => ?_)
                  refine lv_goto (tgt := 12) hx hb dX13_memberOf_76 (by decide) ?_
                  exact ih_12 H locs ls z_2 l1_12 l2_12 l3_12 l4_12 (l5_12 + 1) (hfk_2_2) (hfk_2_5) (hfk_2_6) (hfk_2_27) (hfk_2_28) (hfk_2_29) (hfk_2_30) (hfk_2_34) hln_2 hrq_2 (lv_sub hl [0, 1, 2, 3, 4, 5] rfl) hS (hD.sub (ws' := [(h0, .inr (13, z_2)), (qf27, .inl (cf27, 400, .inl f27)), (qf29, .inl (cf29, 800, .inl f29)), (qf30, .inl (cf30, 800, .inl f30)), (qf34, .inl (cf34, 800, .inl f34)), (qf6, .inl (cf6, 3002, .inl f6)), (qf5, .inl (cf5, 3002, .inl f5)), (qf2, .inl (cf2, 3000, .inl f2))]) [4, 0, 1, 2, 3, 5, 6, 7] (by decide) rfl) (hP.sub (ws' := [(h0, .inr (13, z_2)), (qf27, .inl (cf27, 400, .inl f27)), (qf29, .inl (cf29, 800, .inl f29)), (qf30, .inl (cf30, 800, .inl f30)), (qf34, .inl (cf34, 800, .inl f34)), (qf6, .inl (cf6, 3002, .inl f6)), (qf5, .inl (cf5, 3002, .inl f5)), (qf2, .inl (cf2, 3000, .inl f2))]) [4, 0, 1, 2, 3, 5, 6, 7] rfl) hsp
                · rw [if_neg (by decide)] at hsp
                  refine lv_if_eq (tgt := 73) hx hb dX13_memberOf_67 (by decide) (fun c_12 => (show False by revert c_12; decide).elim) (fun c_12 => ?_)
                  refine lv_iload hx hb dX13_memberOf_70 (lv_at hl 0 rfl) ?_
                  have hr0 := Option.some.inj hsp
                  clear hsp
                  subst hr0
                  have hP9 := hP.sub (ws' := [(h0, .inr (13, z_2)), (qf27, .inl (cf27, 400, .inl f27)), (qf29, .inl (cf29, 800, .inl f29)), (qf30, .inl (cf30, 800, .inl f30)), (qf34, .inl (cf34, 800, .inl f34)), (qf6, .inl (cf6, 3002, .inl f6)), (qf5, .inl (cf5, 3002, .inl f5)), (qf2, .inl (cf2, 3000, .inl f2))]) [4, 0, 1, 2, 3, 5, 6, 7] rfl
                  have hD9 := hD.sub (ws' := [(h0, .inr (13, z_2)), (qf27, .inl (cf27, 400, .inl f27)), (qf29, .inl (cf29, 800, .inl f29)), (qf30, .inl (cf30, 800, .inl f30)), (qf34, .inl (cf34, 800, .inl f34)), (qf6, .inl (cf6, 3002, .inl f6)), (qf5, .inl (cf5, 3002, .inl f5)), (qf2, .inl (cf2, 3000, .inl f2))]) [4, 0, 1, 2, 3, 5, 6, 7] (by decide) rfl
                  have hK9 := hK.sub (tys' := [(cf27, .int), (cf29, .int), (cf30, .int), (cf34, .int), (cf6, .int), (cf5, .int), (cf2, .int)]) [0, 1, 2, 3, 4, 5, 6] rfl
                  exact W.iret hx hb hr (fun t ht hW => ⟨⟨(l5_12), (z_2), rfl, ⟨rfl, hln_2, hrq_2⟩, by rw [ht]; exact hP9, va_K.moved hW.alike hK9, hD9⟩, hS.F ht⟩) hS.2.2 dX13_memberOf_72
            · rw [if_neg c_7] at hsp
              refine lv_iconst (v := 1) hx hb dX13_memberOf_46 (by decide) ?_
              refine lv_goto (tgt := 51) hx hb dX13_memberOf_47 (by decide) ?_
              refine lv_iload_n hx hb dX13_memberOf_51 rfl (lv_at hl 5 rfl) ?_
              refine lv_icmp_ne (tgt := 73) hx hb dX13_memberOf_52 (by decide) (fun c_13 => ?_) (fun c_13 => ?_)
              · rw [if_neg c_13] at hsp
                refine lv_iinc (v := (l5_12 + 1)) (lv' := [(5, .int (l5_12 + 1)), (4, .int l4_12), (0, .ref h0), (1, .int l1_12), (2, .int l2_12), (3, .int l3_12)]) hx hb dX13_memberOf_73 hl (k := 0) rfl rfl (by decide) rfl (fun ls hl => ?_)
                refine lv_goto (tgt := 12) hx hb dX13_memberOf_76 (by decide) ?_
                exact ih_12 H locs ls z12 l1_12 l2_12 l3_12 l4_12 (l5_12 + 1) (hfh_12_2) (hfh_12_5) (hfh_12_6) (hfh_12_27) (hfh_12_28) (hfh_12_29) (hfh_12_30) (hfh_12_34) hlh_12 hrh_12 (lv_sub hl [0, 1, 2, 3, 4, 5] rfl) hS (hD.sub (ws' := [(h0, .inr (13, z12)), (qf27, .inl (cf27, 400, .inl f27)), (qf29, .inl (cf29, 800, .inl f29)), (qf30, .inl (cf30, 800, .inl f30)), (qf34, .inl (cf34, 800, .inl f34)), (qf6, .inl (cf6, 3002, .inl f6)), (qf5, .inl (cf5, 3002, .inl f5)), (qf2, .inl (cf2, 3000, .inl f2))]) [0, 1, 2, 3, 4, 5, 6, 7] (by decide) rfl) (hP.sub (ws' := [(h0, .inr (13, z12)), (qf27, .inl (cf27, 400, .inl f27)), (qf29, .inl (cf29, 800, .inl f29)), (qf30, .inl (cf30, 800, .inl f30)), (qf34, .inl (cf34, 800, .inl f34)), (qf6, .inl (cf6, 3002, .inl f6)), (qf5, .inl (cf5, 3002, .inl f5)), (qf2, .inl (cf2, 3000, .inl f2))]) [0, 1, 2, 3, 4, 5, 6, 7] rfl) hsp
              · rw [if_pos c_13] at hsp
                refine lv_aload_n hx hb dX13_memberOf_55 rfl (lv_at hl 2 rfl) ?_
                refine lv_aload_n hx hb dX13_memberOf_56 rfl (lv_at hl 2 rfl) ?_
                refine va_get (D := (dC, dI)) (ci := 13) (v := .ref qf34) (C := RX13) (T := TX13) (N := 155) hx hb hts uV_h6_X13 hown hK hP 0 rfl rfl 34 (by decide) (hts (.fieldLink RX13 86 "ClassMillModel" "memberName" "[I") mw_h6_42) (fun _ h9 => h9) hfh_12_34 dX13_memberOf_57 ?_
                refine lv_iload hx hb dX13_memberOf_60 (lv_at hl 0 rfl) ?_
                obtain ⟨hi_14, hsp⟩ := ox_in hsp
                refine va_iald hx hb hK hP 4 3 rfl rfl (i := l5_12) hi_14 dX13_memberOf_62 ?_
                refine lv_iload_n hx hb dX13_memberOf_63 rfl (lv_at hl 4 rfl) ?_
                obtain ⟨u3_0, hu_3, hsp⟩ := ox_bind hsp
                try dsimp only at hsp
                have hPc := hP.sub (ws' := [(h0, .inr (13, z12)), (qf6, .inl (cf6, 3002, .inl f6)), (qf5, .inl (cf5, 3002, .inl f5)), (qf2, .inl (cf2, 3000, .inl f2))]) [0, 5, 6, 7] rfl
                have hDc := hD.sub (ws' := [(h0, .inr (13, z12)), (qf6, .inl (cf6, 3002, .inl f6)), (qf5, .inl (cf5, 3002, .inl f5)), (qf2, .inl (cf2, 3000, .inl f2))]) [0, 5, 6, 7] (by decide) rfl
                have hKc := hK.sub (tys' := [(cf6, .int), (cf5, .int), (cf2, .int)]) [4, 5, 6] rfl
                have hFc := va_free (wc := [(h0, .inr (13, z12)), (qf6, .inl (cf6, 3002, .inl f6)), (qf5, .inl (cf5, 3002, .inl f5)), (qf2, .inl (cf2, 3000, .inl f2))]) hD hS hA [0, 5, 6, 7] rfl
                refine va_calli (va_runV (As := [.int (f34 (l5_12 : Int32).toNatClampNeg), .int l2_12]) (rest := []) ⟨hx, hb, hml, hown, hts⟩ (tn_isLike l dC dI H.size h0 z12 ((f34 (l5_12 : Int32).toNatClampNeg)) l2_12 qf2 qf5 qf6 cf6 f6 cf5 f5 cf2 f2 nf u3_0 hlh_12 hfh_12_2 hfh_12_5 hfh_12_6 hu_3) (cwV 2 hts gv_h6_7 rfl rfl rfl (by decide +kernel) ⟨Nat.le_of_ble_eq_true rfl, Nat.le_of_ble_eq_true rfl⟩) ⟨fun a U g mk q => by obtain ⟨q0, q1, qP, qK, qD⟩ := q; exact ⟨q0, q1, qP, va_K.moved (u := U) (U := U.calling g mk a) (Vm.Alike.refl U.vm) qK, qD⟩, va_recv hKc hPc (ci := 13) (q0 := 0) rfl rfl, fun U hU hW => ⟨rfl, by rw [hU], by rw [hU]; exact hPc, va_K.moved hW.alike hKc, hDc.weaken (fun _ _ _ _ => trivial)⟩⟩ rfl rfl hl.1 rfl (lv_room (Nat.le_of_ble_eq_true rfl)) dX13_memberOf_64 ⟨Nat.le_of_ble_eq_true rfl, Nat.le_of_ble_eq_true rfl⟩) hS (fun q _ h => hFc q h) hFc ?_
                clear hS
                intro r_15 u t H1 locs ht hvm hw hB hz1 hk1 hS
                obtain ⟨z_3, rfl⟩ : ∃ z, z = u := ⟨_, rfl⟩
                obtain ⟨hP1, hK1, hD1⟩ := hB
                rw [ht] at hP1
                have hK1 := va_K.moved hvm.symm hK1
                try dsimp only at hw
                have hPD := va_join (wr := [(qf27, .inl (cf27, 400, .inl f27)), (qf29, .inl (cf29, 800, .inl f29)), (qf30, .inl (cf30, 800, .inl f30)), (qf34, .inl (cf34, 800, .inl f34))]) (w1 := [(h0, .inr (13, z_3)), (qf6, .inl (cf6, 3002, .inl f6)), (qf5, .inl (cf5, 3002, .inl f5)), (qf2, .inl (cf2, 3000, .inl f2))]) hP hD [0, 5, 6, 7] [1, 2, 3, 4] rfl rfl (by decide) (by decide) hk1 hFc hP1 hD1
                clear hP hD
                obtain ⟨hP, hD⟩ := hPD
                replace hK := (hK.sub (tys' := [(cf27, .int), (cf29, .int), (cf30, .int), (cf34, .int)]) [0, 1, 2, 3] rfl).app hK1
                clear hPc hDc hKc hFc hP1 hK1 hD1 hz1 hk1 ht hvm
                generalize H1 = H at hP hS ⊢
                replace hP : va_P (dC, dI) vwCl [(qf27, .inl (cf27, 400, .inl f27)), (qf29, .inl (cf29, 800, .inl f29)), (qf30, .inl (cf30, 800, .inl f30)), (qf34, .inl (cf34, 800, .inl f34)), (h0, .inr (13, z_3)), (qf6, .inl (cf6, 3002, .inl f6)), (qf5, .inl (cf5, 3002, .inl f5)), (qf2, .inl (cf2, 3000, .inl f2))] H := hP
                replace hD : va_D A [(qf27, .inl (cf27, 400, .inl f27)), (qf29, .inl (cf29, 800, .inl f29)), (qf30, .inl (cf30, 800, .inl f30)), (qf34, .inl (cf34, 800, .inl f34)), (h0, .inr (13, z_3)), (qf6, .inl (cf6, 3002, .inl f6)), (qf5, .inl (cf5, 3002, .inl f5)), (qf2, .inl (cf2, 3000, .inl f2))] := hD
                replace hK : va_K (dC, dI) vwCl [(cf27, .int), (cf29, .int), (cf30, .int), (cf34, .int), (cf6, .int), (cf5, .int), (cf2, .int)] s := hK
                obtain ⟨hwa_3, hln_3, hre_3⟩ := hw
                have hfk_3_2 : z_3[2]? = some (.ref qf2) := (hre_3 2 ).trans (hfh_12_2)
                have hfk_3_5 : z_3[5]? = some (.ref qf5) := (hre_3 5 ).trans (hfh_12_5)
                have hfk_3_6 : z_3[6]? = some (.ref qf6) := (hre_3 6 ).trans (hfh_12_6)
                have hfk_3_27 : z_3[27]? = some (.ref qf27) := (hre_3 27 ).trans (hfh_12_27)
                have hfk_3_28 : z_3[28]? = some (.int v28) := (hre_3 28 ).trans (hfh_12_28)
                have hfk_3_29 : z_3[29]? = some (.ref qf29) := (hre_3 29 ).trans (hfh_12_29)
                have hfk_3_30 : z_3[30]? = some (.ref qf30) := (hre_3 30 ).trans (hfh_12_30)
                have hfk_3_34 : z_3[34]? = some (.ref qf34) := (hre_3 34 ).trans (hfh_12_34)
                have hrq_3 : ∀ j : Nat, z_3[j]? = zs[j]? := fun j  => (hre_3 j ).trans (hrh_12 j )
                obtain ⟨rfl, hz_3⟩ := hwa_3
                rcases hz_3 with rfl | rfl
                · rw [if_pos rfl] at hsp
                  refine lv_if_eq (tgt := 73) hx hb dX13_memberOf_67 (by decide) (fun c_16 => ?_) (fun c_16 => (show False by revert c_16; decide).elim)
                  refine lv_iinc (v := (l5_12 + 1)) (lv' := [(5, .int (l5_12 + 1)), (4, .int l4_12), (0, .ref h0), (1, .int l1_12), (2, .int l2_12), (3, .int l3_12)]) hx hb dX13_memberOf_73 hl (k := 0) rfl rfl (by decide) rfl (fun ls hl => ?_)
                  refine lv_goto (tgt := 12) hx hb dX13_memberOf_76 (by decide) ?_
                  exact ih_12 H locs ls z_3 l1_12 l2_12 l3_12 l4_12 (l5_12 + 1) (hfk_3_2) (hfk_3_5) (hfk_3_6) (hfk_3_27) (hfk_3_28) (hfk_3_29) (hfk_3_30) (hfk_3_34) hln_3 hrq_3 (lv_sub hl [0, 1, 2, 3, 4, 5] rfl) hS (hD.sub (ws' := [(h0, .inr (13, z_3)), (qf27, .inl (cf27, 400, .inl f27)), (qf29, .inl (cf29, 800, .inl f29)), (qf30, .inl (cf30, 800, .inl f30)), (qf34, .inl (cf34, 800, .inl f34)), (qf6, .inl (cf6, 3002, .inl f6)), (qf5, .inl (cf5, 3002, .inl f5)), (qf2, .inl (cf2, 3000, .inl f2))]) [4, 0, 1, 2, 3, 5, 6, 7] (by decide) rfl) (hP.sub (ws' := [(h0, .inr (13, z_3)), (qf27, .inl (cf27, 400, .inl f27)), (qf29, .inl (cf29, 800, .inl f29)), (qf30, .inl (cf30, 800, .inl f30)), (qf34, .inl (cf34, 800, .inl f34)), (qf6, .inl (cf6, 3002, .inl f6)), (qf5, .inl (cf5, 3002, .inl f5)), (qf2, .inl (cf2, 3000, .inl f2))]) [4, 0, 1, 2, 3, 5, 6, 7] rfl) hsp
                · rw [if_neg (by decide)] at hsp
                  refine lv_if_eq (tgt := 73) hx hb dX13_memberOf_67 (by decide) (fun c_17 => (show False by revert c_17; decide).elim) (fun c_17 => ?_)
                  refine lv_iload hx hb dX13_memberOf_70 (lv_at hl 0 rfl) ?_
                  have hr0 := Option.some.inj hsp
                  clear hsp
                  subst hr0
                  have hP9 := hP.sub (ws' := [(h0, .inr (13, z_3)), (qf27, .inl (cf27, 400, .inl f27)), (qf29, .inl (cf29, 800, .inl f29)), (qf30, .inl (cf30, 800, .inl f30)), (qf34, .inl (cf34, 800, .inl f34)), (qf6, .inl (cf6, 3002, .inl f6)), (qf5, .inl (cf5, 3002, .inl f5)), (qf2, .inl (cf2, 3000, .inl f2))]) [4, 0, 1, 2, 3, 5, 6, 7] rfl
                  have hD9 := hD.sub (ws' := [(h0, .inr (13, z_3)), (qf27, .inl (cf27, 400, .inl f27)), (qf29, .inl (cf29, 800, .inl f29)), (qf30, .inl (cf30, 800, .inl f30)), (qf34, .inl (cf34, 800, .inl f34)), (qf6, .inl (cf6, 3002, .inl f6)), (qf5, .inl (cf5, 3002, .inl f5)), (qf2, .inl (cf2, 3000, .inl f2))]) [4, 0, 1, 2, 3, 5, 6, 7] (by decide) rfl
                  have hK9 := hK.sub (tys' := [(cf27, .int), (cf29, .int), (cf30, .int), (cf34, .int), (cf6, .int), (cf5, .int), (cf2, .int)]) [0, 1, 2, 3, 4, 5, 6] rfl
                  exact W.iret hx hb hr (fun t ht hW => ⟨⟨(l5_12), (z_3), rfl, ⟨rfl, hln_3, hrq_3⟩, by rw [ht]; exact hP9, va_K.moved hW.alike hK9, hD9⟩, hS.F ht⟩) hS.2.2 dX13_memberOf_72
def lp_tn_sightOf_7 (nf n : Nat) (a1 : Int32) (v50 : Int32) (f48 : Nat → Int32) (f6 : Nat → Int32) (f5 : Nat → Int32) (f2 : Nat → Int32)  (l1_7 : Int32) (l2_7 : Int32) : Option (Int32) := match n with
  | 0 => none
  | n + 1 => (if l2_7 < 0 then (some (-1)) else (if l2_7 < 0 then none else if 3000 ≤ (l2_7 : Int32).toNatClampNeg then none else ((sp_tn_isLike nf (f48 (l2_7 : Int32).toNatClampNeg) l1_7 f6 f5 f2).bind (fun p1 => (if p1 = 0 then (lp_tn_sightOf_7 nf n a1 v50 f48 f6 f5 f2 l1_7 (l2_7 + (-1))) else (some l2_7))))))
def sp_tn_sightOf (nf : Nat) (a1 : Int32) (v50 : Int32) (f48 : Nat → Int32) (f6 : Nat → Int32) (f5 : Nat → Int32) (f2 : Nat → Int32) : Option (Int32) := (lp_tn_sightOf_7 nf nf a1 v50 f48 f6 f5 f2 a1 (v50 - 1))
set_option maxHeartbeats 4000000 in
set_option maxRecDepth 100000 in
/-- ClassMillModel.sightOf -/
theorem tn_sightOf (l : Launch) (dC : Nat → ClassId) (dI : Nat → Nat → Nat) (sz : Nat) (h0 : Nat) (zs : (List Value)) (a1 : Int32) (qf2 : Nat) (qf5 : Nat) (qf6 : Nat) (qf48 : Nat) (v50 : Int32) (cf48 : ClassId) (f48 : (Nat → Int32)) (cf6 : ClassId) (f6 : (Nat → Int32)) (cf5 : ClassId) (f5 : (Nat → Int32)) (cf2 : ClassId) (f2 : (Nat → Int32)) (nf : Nat) (r0 : Int32) (hlen : zs.length = 155) (hf2 : zs[2]? = some (.ref qf2)) (hf5 : zs[5]? = some (.ref qf5)) (hf6 : zs[6]? = some (.ref qf6)) (hf48 : zs[48]? = some (.ref qf48)) (hf50 : zs[50]? = some (.int v50)) (hsp : sp_tn_sightOf nf a1 v50 f48 f6 f5 f2 = some r0) : Met l yX13_sightOf (.code yX13_sightOf cX13_sightOf 3 (some .int) :: VS_h6) ({ frames := 1, cells := 0, slots := 0, locals := 24 }) (va_Pc [.ref h0, .int a1] (fun U => U.heap.size = sz ∧ va_P (dC, dI) vwCl [(h0, .inr (13, zs)), (qf48, .inl (cf48, 3000, .inl f48)), (qf6, .inl (cf6, 3002, .inl f6)), (qf5, .inl (cf5, 3002, .inl f5)), (qf2, .inl (cf2, 3000, .inl f2))] U.heap ∧ va_K (dC, dI) vwCl [(cf48, .int), (cf6, .int), (cf5, .int), (cf2, .int)] U ∧ va_D (fun _ => True) [(h0, .inr (13, zs)), (qf48, .inl (cf48, 3000, .inl f48)), (qf6, .inl (cf6, 3002, .inl f6)), (qf5, .inl (cf5, 3002, .inl f5)), (qf2, .inl (cf2, 3000, .inl f2))])) (va_Qi (fun (r : Int32) (u : (List Value)) => match u with | (zo1) => r0 = r ∧ zo1.length = 155 ∧ (∀ j : Nat, zo1[j]? = zs[j]?)) (fun (u : (List Value)) (t : State) => match u with | (zo1) => va_P (dC, dI) vwCl [(h0, .inr (13, zo1)), (qf48, .inl (cf48, 3000, .inl f48)), (qf6, .inl (cf6, 3002, .inl f6)), (qf5, .inl (cf5, 3002, .inl f5)), (qf2, .inl (cf2, 3000, .inl f2))] t.heap ∧ va_K (dC, dI) vwCl [(cf48, .int), (cf6, .int), (cf5, .int), (cf2, .int)] t ∧ va_D (va_A [(h0, .inr (13, zs)), (qf48, .inl (cf48, 3000, .inl f48)), (qf6, .inl (cf6, 3002, .inl f6)), (qf5, .inl (cf5, 3002, .inl f5)), (qf2, .inl (cf2, 3000, .inl f2))] sz) [(h0, .inr (13, zo1)), (qf48, .inl (cf48, 3000, .inl f48)), (qf6, .inl (cf6, 3002, .inl f6)), (qf5, .inl (cf5, 3002, .inl f5)), (qf2, .inl (cf2, 3000, .inl f2))]) (va_A [(h0, .inr (13, zs)), (qf48, .inl (cf48, 3000, .inl f48)), (qf6, .inl (cf6, 3002, .inl f6)), (qf5, .inl (cf5, 3002, .inl f5)), (qf2, .inl (cf2, 3000, .inl f2))] sz)) 0 0 (va_A [(h0, .inr (13, zs)), (qf48, .inl (cf48, 3000, .inl f48)), (qf6, .inl (cf6, 3002, .inl f6)), (qf5, .inl (cf5, 3002, .inl f5)), (qf2, .inl (cf2, 3000, .inl f2))] sz) := by
  refine Met.ofW (cc := cX13_sightOf) (maxL := 3) (ret := (some .int)) (by decide) rfl ?_
  intro p e s m args below meth c s₁ B hml hv
  obtain ⟨rfl, hsz, hP, hK, hD0⟩ := hv
  have hx := B.exec
  have hb := B.bytes
  have hr := B.returns
  have hts := atoms_spec (ws := (.code yX13_sightOf cX13_sightOf 3 (some .int) :: VS_h6)) B.pre
  replace hts := fun w (h : w ∈ VS_h6) => hts w (List.mem_cons_of_mem _ h)
  have hown : s.vm.findClass RX13 = some m.cls := findClass_of_methodNamed B.named
  have hlocks := B.notSynchronized
  subst hsz
  have hD := hD0.self (sz := s.heap.size)
  generalize hAe : va_A [(h0, .inr (13, zs)), (qf48, .inl (cf48, 3000, .inl f48)), (qf6, .inl (cf6, 3002, .inl f6)), (qf5, .inl (cf5, 3002, .inl f5)), (qf2, .inl (cf2, 3000, .inl f2))] s.heap.size = A at hD  ⊢
  have hA : ∀ q : Nat, s.heap.size ≤ q → A q := fun q h => by rw [← hAe]; exact Or.inr h
  have hP : va_P (dC, dI) vwCl [(h0, .inr (13, zs)), (qf48, .inl (cf48, 3000, .inl f48)), (qf6, .inl (cf6, 3002, .inl f6)), (qf5, .inl (cf5, 3002, .inl f5)), (qf2, .inl (cf2, 3000, .inl f2))] s.heap := hP
  have hl := lv_entry ([.ref h0, .int a1]) (n := 3) (Nat.le_of_ble_eq_true rfl)
  rw [lg_entry_eq]
  generalize (lg_sl ([.ref h0, .int a1]) ++ List.replicate (3 - (lg_sl ([.ref h0, .int a1])).length) Slot.unset).toArray = ls at hl ⊢
  have hl : lv_has ls 3 [(0, .ref h0), (1, .int a1)] := hl
  obtain ⟨H, hH⟩ : ∃ H : Heap, s.heap = H := ⟨_, rfl⟩
  rw [hH] at hP ⊢
  have hS : va_S A s.heap H [] := by rw [← hH]; exact va_S.rf
  obtain ⟨locs, hlo⟩ : ∃ locs : List Loc, locs = [] := ⟨_, rfl⟩
  rw [← hlo] at hS ⊢
  have hrs0 : ∀ j : Nat, zs[j]? = zs[j]? := fun _  => rfl
  unfold sp_tn_sightOf at hsp
  refine lv_aload_n hx hb dX13_sightOf_0 rfl (lv_at hl 0 rfl) ?_
  refine va_get (D := (dC, dI)) (ci := 13) (v := .int v50) (C := RX13) (T := TX13) (N := 155) hx hb hts uV_h6_X13 hown hK hP 0 rfl rfl 50 (by decide) (hts (.fieldLink RX13 513 "ClassMillModel" "sight" "I") mw_h6_43) (fun _ h9 => h9) hf50 dX13_sightOf_1 ?_
  refine lv_iconst (v := 1) hx hb dX13_sightOf_4 (by decide) ?_
  refine lv_isub hx hb dX13_sightOf_5 ?_
  refine lv_istore_n (lv' := [(2, .int (v50 - 1)), (0, .ref h0), (1, .int a1)]) hx hb dX13_sightOf_6 rfl hl (by decide) rfl (fun ls hl => ?_)
  replace hP := hP.sub (ws' := [(h0, .inr (13, zs)), (qf48, .inl (cf48, 3000, .inl f48)), (qf6, .inl (cf6, 3002, .inl f6)), (qf5, .inl (cf5, 3002, .inl f5)), (qf2, .inl (cf2, 3000, .inl f2))]) [0, 1, 2, 3, 4] rfl
  replace hD := hD.sub (ws' := [(h0, .inr (13, zs)), (qf48, .inl (cf48, 3000, .inl f48)), (qf6, .inl (cf6, 3002, .inl f6)), (qf5, .inl (cf5, 3002, .inl f5)), (qf2, .inl (cf2, 3000, .inl f2))]) [0, 1, 2, 3, 4] (by decide) rfl
  replace hK := hK.sub (tys' := [(cf48, .int), (cf6, .int), (cf5, .int), (cf2, .int)]) [0, 1, 2, 3] rfl
  obtain ⟨n_7, hn_7⟩ : ∃ z : Nat, z = nf := ⟨_, rfl⟩
  obtain ⟨z7, ez7⟩ : ∃ z : List Value, z = zs := ⟨_, rfl⟩
  obtain ⟨l1_7, el1_7⟩ : ∃ z : Int32, z = a1 := ⟨_, rfl⟩
  obtain ⟨l2_7, el2_7⟩ : ∃ z : Int32, z = (v50 - 1) := ⟨_, rfl⟩
  replace hsp : lp_tn_sightOf_7 nf n_7 a1 v50 f48 f6 f5 f2 l1_7 l2_7 = some r0 := by rw [hn_7, el1_7, el2_7]; exact hsp
  replace hl : lv_has ls 3 [(2, .int l2_7), (0, .ref h0), (1, .int l1_7)] := by rw [el1_7, el2_7]; exact hl
  have hfh_7_2 : z7[2]? = some (.ref qf2) := by rw [ez7]; exact hf2
  have hfh_7_5 : z7[5]? = some (.ref qf5) := by rw [ez7]; exact hf5
  have hfh_7_6 : z7[6]? = some (.ref qf6) := by rw [ez7]; exact hf6
  have hfh_7_48 : z7[48]? = some (.ref qf48) := by rw [ez7]; exact hf48
  have hfh_7_50 : z7[50]? = some (.int v50) := by rw [ez7]; exact hf50
  have hlh_7 : z7.length = 155 := by rw [ez7]; exact hlen
  have hrh_7 : ∀ j : Nat, z7[j]? = zs[j]? := by rw [ez7]; exact hrs0
  replace hP : va_P (dC, dI) vwCl [(h0, .inr (13, z7)), (qf48, .inl (cf48, 3000, .inl f48)), (qf6, .inl (cf6, 3002, .inl f6)), (qf5, .inl (cf5, 3002, .inl f5)), (qf2, .inl (cf2, 3000, .inl f2))] H := by rw [ez7]; exact hP
  replace hD : va_D A [(h0, .inr (13, z7)), (qf48, .inl (cf48, 3000, .inl f48)), (qf6, .inl (cf6, 3002, .inl f6)), (qf5, .inl (cf5, 3002, .inl f5)), (qf2, .inl (cf2, 3000, .inl f2))] := by rw [ez7]; exact hD
  clear hn_7 ez7 el1_7 el2_7
  try clear hlo
  try clear hH
  revert hsp
  revert hP
  revert hD
  revert hS
  revert hl
  revert hrh_7
  revert hlh_7
  revert hfh_7_50
  revert hfh_7_48
  revert hfh_7_6
  revert hfh_7_5
  revert hfh_7_2
  revert l2_7
  revert l1_7
  revert z7
  revert ls
  revert locs
  revert H
  induction n_7 with
  | zero => intro H locs ls z7 l1_7 l2_7 hfh_7_2 hfh_7_5 hfh_7_6 hfh_7_48 hfh_7_50 hlh_7 hrh_7 hl hS hD hP hsp; unfold lp_tn_sightOf_7 at hsp; cases hsp
  | succ n_7 ih_7 =>
    intro H locs ls z7 l1_7 l2_7 hfh_7_2 hfh_7_5 hfh_7_6 hfh_7_48 hfh_7_50 hlh_7 hrh_7 hl hS hD hP hsp
    unfold lp_tn_sightOf_7 at hsp
    try dsimp only at hsp
    refine lv_iload_n hx hb dX13_sightOf_7 rfl (lv_at hl 0 rfl) ?_
    refine lv_if_lt (tgt := 33) hx hb dX13_sightOf_8 (by decide) (fun c_1 => ?_) (fun c_1 => ?_)
    · rw [if_pos c_1] at hsp
      refine lv_iconst (v := (-1)) hx hb dX13_sightOf_33 (by decide) ?_
      have hr0 := Option.some.inj hsp
      clear hsp
      subst hr0
      have hP9 := hP.sub (ws' := [(h0, .inr (13, z7)), (qf48, .inl (cf48, 3000, .inl f48)), (qf6, .inl (cf6, 3002, .inl f6)), (qf5, .inl (cf5, 3002, .inl f5)), (qf2, .inl (cf2, 3000, .inl f2))]) [0, 1, 2, 3, 4] rfl
      have hD9 := hD.sub (ws' := [(h0, .inr (13, z7)), (qf48, .inl (cf48, 3000, .inl f48)), (qf6, .inl (cf6, 3002, .inl f6)), (qf5, .inl (cf5, 3002, .inl f5)), (qf2, .inl (cf2, 3000, .inl f2))]) [0, 1, 2, 3, 4] (by decide) rfl
      have hK9 := hK.sub (tys' := [(cf48, .int), (cf6, .int), (cf5, .int), (cf2, .int)]) [0, 1, 2, 3] rfl
      exact W.iret hx hb hr (fun t ht hW => ⟨⟨((-1)), (z7), rfl, ⟨rfl, hlh_7, hrh_7⟩, by rw [ht]; exact hP9, va_K.moved hW.alike hK9, hD9⟩, hS.F ht⟩) hS.2.2 dX13_sightOf_34
    · rw [if_neg c_1] at hsp
      refine lv_aload_n hx hb dX13_sightOf_11 rfl (lv_at hl 1 rfl) ?_
      refine lv_aload_n hx hb dX13_sightOf_12 rfl (lv_at hl 1 rfl) ?_
      refine va_get (D := (dC, dI)) (ci := 13) (v := .ref qf48) (C := RX13) (T := TX13) (N := 155) hx hb hts uV_h6_X13 hown hK hP 0 rfl rfl 48 (by decide) (hts (.fieldLink RX13 116 "ClassMillModel" "sightName" "[I") mw_h6_44) (fun _ h9 => h9) hfh_7_48 dX13_sightOf_13 ?_
      refine lv_iload_n hx hb dX13_sightOf_16 rfl (lv_at hl 0 rfl) ?_
      obtain ⟨hi_2, hsp⟩ := ox_in hsp
      refine va_iald hx hb hK hP 1 0 rfl rfl (i := l2_7) hi_2 dX13_sightOf_17 ?_
      refine lv_iload_n hx hb dX13_sightOf_18 rfl (lv_at hl 2 rfl) ?_
      obtain ⟨u1_0, hu_1, hsp⟩ := ox_bind hsp
      try dsimp only at hsp
      have hPc := hP.sub (ws' := [(h0, .inr (13, z7)), (qf6, .inl (cf6, 3002, .inl f6)), (qf5, .inl (cf5, 3002, .inl f5)), (qf2, .inl (cf2, 3000, .inl f2))]) [0, 2, 3, 4] rfl
      have hDc := hD.sub (ws' := [(h0, .inr (13, z7)), (qf6, .inl (cf6, 3002, .inl f6)), (qf5, .inl (cf5, 3002, .inl f5)), (qf2, .inl (cf2, 3000, .inl f2))]) [0, 2, 3, 4] (by decide) rfl
      have hKc := hK.sub (tys' := [(cf6, .int), (cf5, .int), (cf2, .int)]) [1, 2, 3] rfl
      have hFc := va_free (wc := [(h0, .inr (13, z7)), (qf6, .inl (cf6, 3002, .inl f6)), (qf5, .inl (cf5, 3002, .inl f5)), (qf2, .inl (cf2, 3000, .inl f2))]) hD hS hA [0, 2, 3, 4] rfl
      refine va_calli (va_runV (As := [.int (f48 (l2_7 : Int32).toNatClampNeg), .int l1_7]) (rest := []) ⟨hx, hb, hml, hown, hts⟩ (tn_isLike l dC dI H.size h0 z7 ((f48 (l2_7 : Int32).toNatClampNeg)) l1_7 qf2 qf5 qf6 cf6 f6 cf5 f5 cf2 f2 nf u1_0 hlh_7 hfh_7_2 hfh_7_5 hfh_7_6 hu_1) (cwV 2 hts gv_h6_7 rfl rfl rfl (by decide +kernel) ⟨Nat.le_of_ble_eq_true rfl, Nat.le_of_ble_eq_true rfl⟩) ⟨fun a U g mk q => by obtain ⟨q0, q1, qP, qK, qD⟩ := q; exact ⟨q0, q1, qP, va_K.moved (u := U) (U := U.calling g mk a) (Vm.Alike.refl U.vm) qK, qD⟩, va_recv hKc hPc (ci := 13) (q0 := 0) rfl rfl, fun U hU hW => ⟨rfl, by rw [hU], by rw [hU]; exact hPc, va_K.moved hW.alike hKc, hDc.weaken (fun _ _ _ _ => trivial)⟩⟩ rfl rfl hl.1 rfl (lv_room (Nat.le_of_ble_eq_true rfl)) dX13_sightOf_19 ⟨Nat.le_of_ble_eq_true rfl, Nat.le_of_ble_eq_true rfl⟩) hS (fun q _ h => hFc q h) hFc ?_
      clear hS
      intro r_3 u t H1 locs ht hvm hw hB hz1 hk1 hS
      obtain ⟨z_1, rfl⟩ : ∃ z, z = u := ⟨_, rfl⟩
      obtain ⟨hP1, hK1, hD1⟩ := hB
      rw [ht] at hP1
      have hK1 := va_K.moved hvm.symm hK1
      try dsimp only at hw
      have hPD := va_join (wr := [(qf48, .inl (cf48, 3000, .inl f48))]) (w1 := [(h0, .inr (13, z_1)), (qf6, .inl (cf6, 3002, .inl f6)), (qf5, .inl (cf5, 3002, .inl f5)), (qf2, .inl (cf2, 3000, .inl f2))]) hP hD [0, 2, 3, 4] [1] rfl rfl (by decide) (by decide) hk1 hFc hP1 hD1
      clear hP hD
      obtain ⟨hP, hD⟩ := hPD
      replace hK := (hK.sub (tys' := [(cf48, .int)]) [0] rfl).app hK1
      clear hPc hDc hKc hFc hP1 hK1 hD1 hz1 hk1 ht hvm
      generalize H1 = H at hP hS ⊢
      replace hP : va_P (dC, dI) vwCl [(qf48, .inl (cf48, 3000, .inl f48)), (h0, .inr (13, z_1)), (qf6, .inl (cf6, 3002, .inl f6)), (qf5, .inl (cf5, 3002, .inl f5)), (qf2, .inl (cf2, 3000, .inl f2))] H := hP
      replace hD : va_D A [(qf48, .inl (cf48, 3000, .inl f48)), (h0, .inr (13, z_1)), (qf6, .inl (cf6, 3002, .inl f6)), (qf5, .inl (cf5, 3002, .inl f5)), (qf2, .inl (cf2, 3000, .inl f2))] := hD
      replace hK : va_K (dC, dI) vwCl [(cf48, .int), (cf6, .int), (cf5, .int), (cf2, .int)] s := hK
      obtain ⟨hwa_1, hln_1, hre_1⟩ := hw
      have hfk_1_2 : z_1[2]? = some (.ref qf2) := (hre_1 2 ).trans (hfh_7_2)
      have hfk_1_5 : z_1[5]? = some (.ref qf5) := (hre_1 5 ).trans (hfh_7_5)
      have hfk_1_6 : z_1[6]? = some (.ref qf6) := (hre_1 6 ).trans (hfh_7_6)
      have hfk_1_48 : z_1[48]? = some (.ref qf48) := (hre_1 48 ).trans (hfh_7_48)
      have hfk_1_50 : z_1[50]? = some (.int v50) := (hre_1 50 ).trans (hfh_7_50)
      have hrq_1 : ∀ j : Nat, z_1[j]? = zs[j]? := fun j  => (hre_1 j ).trans (hrh_7 j )
      obtain ⟨rfl, hz_1⟩ := hwa_1
      rcases hz_1 with rfl | rfl
      · rw [if_pos rfl] at hsp
        refine lv_if_eq (tgt := 27) hx hb dX13_sightOf_22 (by decide) (fun c_4 => ?_) (fun c_4 => (show False by revert c_4; decide).elim)
        refine lv_iinc (v := (l2_7 + (-1))) (lv' := [(2, .int (l2_7 + (-1))), (0, .ref h0), (1, .int l1_7)]) hx hb dX13_sightOf_27 hl (k := 0) rfl rfl (by decide) rfl (fun ls hl => ?_)
        refine lv_goto (tgt := 7) hx hb dX13_sightOf_30 (by decide) ?_
        exact ih_7 H locs ls z_1 l1_7 (l2_7 + (-1)) (hfk_1_2) (hfk_1_5) (hfk_1_6) (hfk_1_48) (hfk_1_50) hln_1 hrq_1 (lv_sub hl [0, 1, 2] rfl) hS (hD.sub (ws' := [(h0, .inr (13, z_1)), (qf48, .inl (cf48, 3000, .inl f48)), (qf6, .inl (cf6, 3002, .inl f6)), (qf5, .inl (cf5, 3002, .inl f5)), (qf2, .inl (cf2, 3000, .inl f2))]) [1, 0, 2, 3, 4] (by decide) rfl) (hP.sub (ws' := [(h0, .inr (13, z_1)), (qf48, .inl (cf48, 3000, .inl f48)), (qf6, .inl (cf6, 3002, .inl f6)), (qf5, .inl (cf5, 3002, .inl f5)), (qf2, .inl (cf2, 3000, .inl f2))]) [1, 0, 2, 3, 4] rfl) hsp
      · rw [if_neg (by decide)] at hsp
        refine lv_if_eq (tgt := 27) hx hb dX13_sightOf_22 (by decide) (fun c_5 => (show False by revert c_5; decide).elim) (fun c_5 => ?_)
        refine lv_iload_n hx hb dX13_sightOf_25 rfl (lv_at hl 0 rfl) ?_
        have hr0 := Option.some.inj hsp
        clear hsp
        subst hr0
        have hP9 := hP.sub (ws' := [(h0, .inr (13, z_1)), (qf48, .inl (cf48, 3000, .inl f48)), (qf6, .inl (cf6, 3002, .inl f6)), (qf5, .inl (cf5, 3002, .inl f5)), (qf2, .inl (cf2, 3000, .inl f2))]) [1, 0, 2, 3, 4] rfl
        have hD9 := hD.sub (ws' := [(h0, .inr (13, z_1)), (qf48, .inl (cf48, 3000, .inl f48)), (qf6, .inl (cf6, 3002, .inl f6)), (qf5, .inl (cf5, 3002, .inl f5)), (qf2, .inl (cf2, 3000, .inl f2))]) [1, 0, 2, 3, 4] (by decide) rfl
        have hK9 := hK.sub (tys' := [(cf48, .int), (cf6, .int), (cf5, .int), (cf2, .int)]) [0, 1, 2, 3] rfl
        exact W.iret hx hb hr (fun t ht hW => ⟨⟨(l2_7), (z_1), rfl, ⟨rfl, hln_1, hrq_1⟩, by rw [ht]; exact hP9, va_K.moved hW.alike hK9, hD9⟩, hS.F ht⟩) hS.2.2 dX13_sightOf_26
def sp_tn_isByClass (nf : Nat) (a1 : Int32) (v28 : Int32) (v50 : Int32) (v52 : Int32) (f14 : Nat → Int32) (f11 : Nat → Int32) (f21 : Nat → Int32) (f12 : Nat → Int32) (f48 : Nat → Int32) (f6 : Nat → Int32) (f5 : Nat → Int32) (f2 : Nat → Int32) (f27 : Nat → Int32) (f29 : Nat → Int32) (f30 : Nat → Int32) (f34 : Nat → Int32) : Option (Int32) := (if a1 < 0 then none else if 9000 ≤ (a1 : Int32).toNatClampNeg then none else (if (f14 (a1 : Int32).toNatClampNeg) < 0 then none else if 9000 ≤ ((f14 (a1 : Int32).toNatClampNeg) : Int32).toNatClampNeg then none else (if (f11 ((f14 (a1 : Int32).toNatClampNeg) : Int32).toNatClampNeg) = 25 then (if (f14 (a1 : Int32).toNatClampNeg) < 0 then none else if 9000 ≤ ((f14 (a1 : Int32).toNatClampNeg) : Int32).toNatClampNeg then none else (if (f21 ((f14 (a1 : Int32).toNatClampNeg) : Int32).toNatClampNeg) = 0 then (if (f14 (a1 : Int32).toNatClampNeg) < 0 then none else if 9000 ≤ ((f14 (a1 : Int32).toNatClampNeg) : Int32).toNatClampNeg then none else ((sp_tn_sightOf nf (f12 ((f14 (a1 : Int32).toNatClampNeg) : Int32).toNatClampNeg) v50 f48 f6 f5 f2).bind (fun p1 => (if p1 = (-1) then (if (f14 (a1 : Int32).toNatClampNeg) < 0 then none else if 9000 ≤ ((f14 (a1 : Int32).toNatClampNeg) : Int32).toNatClampNeg then none else ((sp_tn_memberOf nf v52 (f12 ((f14 (a1 : Int32).toNatClampNeg) : Int32).toNatClampNeg) 0 v28 f27 f29 f30 f34 f6 f5 f2).bind (fun p2 => (if p2 = (-1) then (some 1) else (some 0))))) else (some 0))))) else (some 0))) else (some 0))))
