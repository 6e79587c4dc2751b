set_option maxHeartbeats 4000000 in
set_option maxRecDepth 100000 in
/-- ClassMillModel.word -/
theorem tm_word (l : Launch) (dC : Nat → ClassId) (dI : Nat → Nat → Nat) (sz : Nat) (h0 : Nat) (zs : (List Value)) (a1 : Int32) (qf4 : Nat) (qf5 : Nat) (qf7 : Nat) (v9 : Int32) (v10 : Int32) (v23 : Int32) (cf4 : ClassId) (f4 : (Nat → Int32)) (cf7 : ClassId) (f7 : (Nat → Int32)) (cf5 : ClassId) (f5 : (Nat → Int32)) (nf : Nat) (w10 : Int32) (w23 : Int32) (w9 : Int32) (hlen : zs.length = 155) (hf4 : zs[4]? = some (.ref qf4)) (hf5 : zs[5]? = some (.ref qf5)) (hf7 : zs[7]? = some (.ref qf7)) (hf9 : zs[9]? = some (.int v9)) (hf10 : zs[10]? = some (.int v10)) (hf23 : zs[23]? = some (.int v23)) (hsp : sp_tm_word nf a1 v9 v10 v23 f4 f7 f5 = some (w10, w23, w9)) : Met l yX13_word (.code yX13_word cX13_word 2 none :: VS_h5) ({ frames := 2, cells := 0, slots := 0, locals := 42 }) (va_Pc [.ref h0, .int a1] (fun U => U.heap.size = sz ∧ va_P (dC, dI) vwCl [(h0, .inr (13, zs)), (qf4, .inl (cf4, 3008, .inl f4)), (qf7, .inl (cf7, 3002, .inl f7)), (qf5, .inl (cf5, 3002, .inl f5))] U.heap ∧ va_K (dC, dI) vwCl [(cf4, .int), (cf7, .int), (cf5, .int)] U ∧ va_D (fun _ => True) [(h0, .inr (13, zs)), (qf4, .inl (cf4, 3008, .inl f4)), (qf7, .inl (cf7, 3002, .inl f7)), (qf5, .inl (cf5, 3002, .inl f5))])) (va_Qv (fun (u : (List Value)) => match u with | (zo1) => True ∧ zo1.length = 155 ∧ (∀ j : Nat, j ≠ 10 → j ≠ 23 → j ≠ 9 → zo1[j]? = zs[j]?) ∧ zo1[10]? = some (.int w10) ∧ zo1[23]? = some (.int w23) ∧ zo1[9]? = some (.int w9)) (fun (u : (List Value)) (t : State) => match u with | (zo1) => va_P (dC, dI) vwCl [(h0, .inr (13, zo1)), (qf4, .inl (cf4, 3008, .inl f4)), (qf7, .inl (cf7, 3002, .inl f7)), (qf5, .inl (cf5, 3002, .inl f5))] t.heap ∧ va_K (dC, dI) vwCl [(cf4, .int), (cf7, .int), (cf5, .int)] t ∧ va_D (va_A [(h0, .inr (13, zs)), (qf4, .inl (cf4, 3008, .inl f4)), (qf7, .inl (cf7, 3002, .inl f7)), (qf5, .inl (cf5, 3002, .inl f5))] sz) [(h0, .inr (13, zo1)), (qf4, .inl (cf4, 3008, .inl f4)), (qf7, .inl (cf7, 3002, .inl f7)), (qf5, .inl (cf5, 3002, .inl f5))]) (va_A [(h0, .inr (13, zs)), (qf4, .inl (cf4, 3008, .inl f4)), (qf7, .inl (cf7, 3002, .inl f7)), (qf5, .inl (cf5, 3002, .inl f5))] sz)) 0 0 (va_A [(h0, .inr (13, zs)), (qf4, .inl (cf4, 3008, .inl f4)), (qf7, .inl (cf7, 3002, .inl f7)), (qf5, .inl (cf5, 3002, .inl f5))] sz) := by
  refine Met.ofW (cc := cX13_word) (maxL := 2) (ret := none) (by decide) rfl ?_
  intro p e s m args below meth c s₁ B hml hv
  obtain ⟨rfl, hsz, hP, hK, hD0⟩ := hv
  have hx := B.exec
  have hb := B.bytes
  have hr := B.returns
  have hts := atoms_spec (ws := (.code yX13_word cX13_word 2 none :: VS_h5)) B.pre
  replace hts := fun w (h : w ∈ VS_h5) => hts w (List.mem_cons_of_mem _ h)
  have hown : s.vm.findClass RX13 = some m.cls := findClass_of_methodNamed B.named
  have hlocks := B.notSynchronized
  subst hsz
  have hD := hD0.self (sz := s.heap.size)
  generalize hAe : va_A [(h0, .inr (13, zs)), (qf4, .inl (cf4, 3008, .inl f4)), (qf7, .inl (cf7, 3002, .inl f7)), (qf5, .inl (cf5, 3002, .inl f5))] s.heap.size = A at hD  ⊢
  have hA : ∀ q : Nat, s.heap.size ≤ q → A q := fun q h => by rw [← hAe]; exact Or.inr h
  have hP : va_P (dC, dI) vwCl [(h0, .inr (13, zs)), (qf4, .inl (cf4, 3008, .inl f4)), (qf7, .inl (cf7, 3002, .inl f7)), (qf5, .inl (cf5, 3002, .inl f5))] s.heap := hP
  have hl := lv_entry ([.ref h0, .int a1]) (n := 2) (Nat.le_of_ble_eq_true rfl)
  rw [lg_entry_eq]
  generalize (lg_sl ([.ref h0, .int a1]) ++ List.replicate (2 - (lg_sl ([.ref h0, .int a1])).length) Slot.unset).toArray = ls at hl ⊢
  have hl : lv_has ls 2 [(0, .ref h0), (1, .int a1)] := hl
  obtain ⟨H, hH⟩ : ∃ H : Heap, s.heap = H := ⟨_, rfl⟩
  rw [hH] at hP ⊢
  have hS : va_S A s.heap H [] := by rw [← hH]; exact va_S.rf
  obtain ⟨locs, hlo⟩ : ∃ locs : List Loc, locs = [] := ⟨_, rfl⟩
  rw [← hlo] at hS ⊢
  have hrs0 : ∀ j : Nat, j ≠ 10 → j ≠ 23 → j ≠ 9 → zs[j]? = zs[j]? := fun _ _ _ _  => rfl
  unfold sp_tm_word at hsp
  refine lv_aload_n hx hb dX13_word_0 rfl (lv_at hl 0 rfl) ?_
  refine va_get (D := (dC, dI)) (ci := 13) (v := .int v9) (C := RX13) (T := TX13) (N := 155) hx hb hts uV_h5_X13 hown hK hP 0 rfl rfl 9 (by decide) (hts (.fieldLink RX13 319 "ClassMillModel" "fault" "I") mw_h5_1) (fun _ h9 => h9) hf9 dX13_word_1 ?_
  refine lv_if_eq (tgt := 8) hx hb dX13_word_4 (by decide) (fun c_1 => ?_) (fun c_1 => ?_)
  · rw [if_pos c_1] at hsp
    refine lv_aload_n hx hb dX13_word_8 rfl (lv_at hl 0 rfl) ?_
    refine lv_aload_n hx hb dX13_word_9 rfl (lv_at hl 0 rfl) ?_
    refine va_get (D := (dC, dI)) (ci := 13) (v := .int v23) (C := RX13) (T := TX13) (N := 155) hx hb hts uV_h5_X13 hown hK hP 0 rfl rfl 23 (by decide) (hts (.fieldLink RX13 376 "ClassMillModel" "cursor" "I") mw_h5_15) (fun _ h9 => h9) hf23 dX13_word_10 ?_
    refine lv_iload_n hx hb dX13_word_13 rfl (lv_at hl 1 rfl) ?_
    obtain ⟨u1_0, hu_1, hsp⟩ := ox_bind hsp
    try dsimp only at hsp
    have hPc := hP.sub (ws' := [(h0, .inr (13, zs)), (qf4, .inl (cf4, 3008, .inl f4)), (qf7, .inl (cf7, 3002, .inl f7))]) [0, 1, 2] rfl
    have hDc := hD.sub (ws' := [(h0, .inr (13, zs)), (qf4, .inl (cf4, 3008, .inl f4)), (qf7, .inl (cf7, 3002, .inl f7))]) [0, 1, 2] (by decide) rfl
    have hKc := hK.sub (tys' := [(cf4, .int), (cf7, .int)]) [0, 1] rfl
    have hFc := va_free (wc := [(h0, .inr (13, zs)), (qf4, .inl (cf4, 3008, .inl f4)), (qf7, .inl (cf7, 3002, .inl f7))]) hD hS hA [0, 1, 2] rfl
    refine va_calli (va_runV (As := [.int v23, .int a1]) (rest := []) ⟨hx, hb, hml, hown, hts⟩ (tm_isWord l dC dI H.size h0 zs v23 a1 qf4 qf7 cf4 f4 cf7 f7 nf u1_0 hlen hf4 hf7 hu_1) (cwV 2 hts gv_h5_3 rfl rfl rfl (by decide +kernel) ⟨Nat.le_of_ble_eq_true rfl, Nat.le_of_ble_eq_true rfl⟩) ⟨fun a U g mk q => by obtain ⟨q0, q1, qP, qK, qD⟩ := q; exact ⟨q0, q1, qP, va_K.moved (u := U) (U := U.calling g mk a) (Vm.Alike.refl U.vm) qK, qD⟩, va_recv hKc hPc (ci := 13) (q0 := 0) rfl rfl, fun U hU hW => ⟨rfl, by rw [hU], by rw [hU]; exact hPc, va_K.moved hW.alike hKc, hDc.weaken (fun _ _ _ _ => trivial)⟩⟩ rfl rfl hl.1 rfl (lv_room (Nat.le_of_ble_eq_true rfl)) dX13_word_14 ⟨Nat.le_of_ble_eq_true rfl, Nat.le_of_ble_eq_true rfl⟩) hS (fun q _ h => hFc q h) hFc ?_
    clear hS
    intro r_2 u t H1 locs ht hvm hw hB hz1 hk1 hS
    obtain ⟨z_1, rfl⟩ : ∃ z, z = u := ⟨_, rfl⟩
    obtain ⟨hP1, hK1, hD1⟩ := hB
    rw [ht] at hP1
    have hK1 := va_K.moved hvm.symm hK1
    try dsimp only at hw
    have hPD := va_join (wr := [(qf5, .inl (cf5, 3002, .inl f5))]) (w1 := [(h0, .inr (13, z_1)), (qf4, .inl (cf4, 3008, .inl f4)), (qf7, .inl (cf7, 3002, .inl f7))]) hP hD [0, 1, 2] [3] rfl rfl (by decide) (by decide) hk1 hFc hP1 hD1
    clear hP hD
    obtain ⟨hP, hD⟩ := hPD
    replace hK := (hK.sub (tys' := [(cf5, .int)]) [2] rfl).app hK1
    clear hPc hDc hKc hFc hP1 hK1 hD1 hz1 hk1 ht hvm
    generalize H1 = H at hP hS ⊢
    replace hP : va_P (dC, dI) vwCl [(qf5, .inl (cf5, 3002, .inl f5)), (h0, .inr (13, z_1)), (qf4, .inl (cf4, 3008, .inl f4)), (qf7, .inl (cf7, 3002, .inl f7))] H := hP
    replace hD : va_D A [(qf5, .inl (cf5, 3002, .inl f5)), (h0, .inr (13, z_1)), (qf4, .inl (cf4, 3008, .inl f4)), (qf7, .inl (cf7, 3002, .inl f7))] := hD
    replace hK : va_K (dC, dI) vwCl [(cf5, .int), (cf4, .int), (cf7, .int)] s := hK
    obtain ⟨hwa_1, hln_1, hre_1⟩ := hw
    have hfk_1_4 : z_1[4]? = some (.ref qf4) := (hre_1 4 ).trans (hf4)
    have hfk_1_5 : z_1[5]? = some (.ref qf5) := (hre_1 5 ).trans (hf5)
    have hfk_1_7 : z_1[7]? = some (.ref qf7) := (hre_1 7 ).trans (hf7)
    have hfk_1_9 : z_1[9]? = some (.int v9) := (hre_1 9 ).trans (hf9)
    have hfk_1_10 : z_1[10]? = some (.int v10) := (hre_1 10 ).trans (hf10)
    have hfk_1_23 : z_1[23]? = some (.int v23) := (hre_1 23 ).trans (hf23)
    have hrq_1 : ∀ j : Nat, j ≠ 10 → j ≠ 23 → j ≠ 9 → z_1[j]? = zs[j]? := fun j g10 g23 g9 => (hre_1 j ).trans (hrs0 j g10 g23 g9)
    obtain ⟨rfl, hz_1⟩ := hwa_1
    rcases hz_1 with rfl | rfl
    · rw [if_pos rfl] at hsp
      refine lv_if_eq (tgt := 33) hx hb dX13_word_17 (by decide) (fun c_3 => ?_) (fun c_3 => (show False by revert c_3; decide).elim)
      refine lv_aload_n hx hb dX13_word_33 rfl (lv_at hl 0 rfl) ?_
      obtain ⟨⟨u2_0, u2_1⟩, hu_2, hsp⟩ := ox_bind hsp
      try dsimp only at hsp
      have hPc := hP.sub (ws' := [(h0, .inr (13, z_1)), (qf4, .inl (cf4, 3008, .inl f4)), (qf5, .inl (cf5, 3002, .inl f5))]) [1, 2, 0] rfl
      have hDc := hD.sub (ws' := [(h0, .inr (13, z_1)), (qf4, .inl (cf4, 3008, .inl f4)), (qf5, .inl (cf5, 3002, .inl f5))]) [1, 2, 0] (by decide) rfl
      have hKc := hK.sub (tys' := [(cf4, .int), (cf5, .int)]) [1, 0] rfl
      have hFc := va_free (wc := [(h0, .inr (13, z_1)), (qf4, .inl (cf4, 3008, .inl f4)), (qf5, .inl (cf5, 3002, .inl f5))]) hD hS hA [1, 2, 0] rfl
      refine va_callv (va_runV (As := []) (rest := []) ⟨hx, hb, hml, hown, hts⟩ (tm_misplaced l dC dI H.size h0 z_1 qf4 qf5 v9 v10 v23 cf4 f4 cf5 f5 nf u2_0 u2_1 hln_1 hfk_1_4 hfk_1_5 hfk_1_9 hfk_1_10 hfk_1_23 hu_2) (cwV 0 hts gv_h5_2 rfl rfl rfl (by decide +kernel) ⟨Nat.le_of_ble_eq_true rfl, Nat.le_of_ble_eq_true rfl⟩) ⟨fun a U g mk q => by obtain ⟨q0, q1, qP, qK, qD⟩ := q; exact ⟨q0, q1, qP, va_K.moved (u := U) (U := U.calling g mk a) (Vm.Alike.refl U.vm) qK, qD⟩, va_recv hKc hPc (ci := 13) (q0 := 0) rfl rfl, fun U hU hW => ⟨rfl, by rw [hU], by rw [hU]; exact hPc, va_K.moved hW.alike hKc, hDc.weaken (fun _ _ _ _ => trivial)⟩⟩ rfl rfl hl.1 rfl (lv_room (Nat.le_of_ble_eq_true rfl)) dX13_word_34 ⟨Nat.le_of_ble_eq_true rfl, Nat.le_of_ble_eq_true rfl⟩) hS (fun q _ h => hFc q h) hFc ?_
      clear hS
      intro u t H1 locs ht hvm hw hB hz1 hk1 hS
      obtain ⟨z_2, rfl⟩ : ∃ z, z = u := ⟨_, rfl⟩
      obtain ⟨hP1, hK1, hD1⟩ := hB
      rw [ht] at hP1
      have hK1 := va_K.moved hvm.symm hK1
      try dsimp only at hw
      have hPD := va_join (wr := [(qf7, .inl (cf7, 3002, .inl f7))]) (w1 := [(h0, .inr (13, z_2)), (qf4, .inl (cf4, 3008, .inl f4)), (qf5, .inl (cf5, 3002, .inl f5))]) hP hD [1, 2, 0] [3] rfl rfl (by decide) (by decide) hk1 hFc hP1 hD1
      clear hP hD
      obtain ⟨hP, hD⟩ := hPD
      replace hK := (hK.sub (tys' := [(cf7, .int)]) [2] rfl).app hK1
      clear hPc hDc hKc hFc hP1 hK1 hD1 hz1 hk1 ht hvm
      generalize H1 = H at hP hS ⊢
      replace hP : va_P (dC, dI) vwCl [(qf7, .inl (cf7, 3002, .inl f7)), (h0, .inr (13, z_2)), (qf4, .inl (cf4, 3008, .inl f4)), (qf5, .inl (cf5, 3002, .inl f5))] H := hP
      replace hD : va_D A [(qf7, .inl (cf7, 3002, .inl f7)), (h0, .inr (13, z_2)), (qf4, .inl (cf4, 3008, .inl f4)), (qf5, .inl (cf5, 3002, .inl f5))] := hD
      replace hK : va_K (dC, dI) vwCl [(cf7, .int), (cf4, .int), (cf5, .int)] s := hK
      obtain ⟨hwa_2, hln_2, hre_2, hch_2_10, hch_2_9⟩ := hw
      have hfk_2_4 : z_2[4]? = some (.ref qf4) := (hre_2 4 (by decide) (by decide)).trans (hfk_1_4)
      have hfk_2_5 : z_2[5]? = some (.ref qf5) := (hre_2 5 (by decide) (by decide)).trans (hfk_1_5)
      have hfk_2_7 : z_2[7]? = some (.ref qf7) := (hre_2 7 (by decide) (by decide)).trans (hfk_1_7)
      have hfk_2_23 : z_2[23]? = some (.int v23) := (hre_2 23 (by decide) (by decide)).trans (hfk_1_23)
      have hrq_2 : ∀ j : Nat, j ≠ 10 → j ≠ 23 → j ≠ 9 → z_2[j]? = zs[j]? := fun j g10 g23 g9 => (hre_2 j g10 g9).trans (hrq_1 j g10 g23 g9)
      have hr0 := Option.some.inj hsp
      clear hsp
      obtain ⟨hq0, hr1⟩ := Prod.mk.inj hr0
      clear hr0
      obtain ⟨hq1, hr2⟩ := Prod.mk.inj hr1
      clear hr1
      subst hq0
      subst hq1
      subst hr2
      have hP9 := hP.sub (ws' := [(h0, .inr (13, z_2)), (qf4, .inl (cf4, 3008, .inl f4)), (qf7, .inl (cf7, 3002, .inl f7)), (qf5, .inl (cf5, 3002, .inl f5))]) [1, 2, 0, 3] rfl
      have hD9 := hD.sub (ws' := [(h0, .inr (13, z_2)), (qf4, .inl (cf4, 3008, .inl f4)), (qf7, .inl (cf7, 3002, .inl f7)), (qf5, .inl (cf5, 3002, .inl f5))]) [1, 2, 0, 3] (by decide) rfl
      have hK9 := hK.sub (tys' := [(cf4, .int), (cf7, .int), (cf5, .int)]) [1, 0, 2] rfl
      exact W.vret hx hb hr (fun t ht hW => ⟨⟨(z_2), rfl, ⟨trivial, hln_2, hrq_2, hch_2_10, hfk_2_23, hch_2_9⟩, by rw [ht]; exact hP9, va_K.moved hW.alike hK9, hD9⟩, hS.F ht⟩) hS.2.2 dX13_word_37
    · rw [if_neg (by decide)] at hsp
      refine lv_if_eq (tgt := 33) hx hb dX13_word_17 (by decide) (fun c_4 => (show False by revert c_4; decide).elim) (fun c_4 => ?_)
      refine lv_aload_n hx hb dX13_word_20 rfl (lv_at hl 0 rfl) ?_
      refine lv_dup hx hb dX13_word_21 rfl ?_
      refine va_get (D := (dC, dI)) (ci := 13) (v := .int v23) (C := RX13) (T := TX13) (N := 155) hx hb hts uV_h5_X13 hown hK hP 1 rfl rfl 23 (by decide) (hts (.fieldLink RX13 376 "ClassMillModel" "cursor" "I") mw_h5_15) (fun _ h9 => h9) hfk_1_23 dX13_word_22 ?_
      refine lv_iconst (v := 1) hx hb dX13_word_25 (by decide) ?_
      refine lv_iadd hx hb dX13_word_26 ?_
      refine va_put (D := (dC, dI)) (ci := 13) (v := .int (v23 + 1)) (ty := .int) (C := RX13) (T := TX13) (N := 155) hx hb hts uV_h5_X13 tyX13 tyX13_ok nmX13 hown hK hP hD hS 1 rfl rfl 23 (by decide) (hts (.fieldLink RX13 376 "ClassMillModel" "cursor" "I") mw_h5_15) (fun _ h9 => h9) rfl (by decide +kernel) rfl rfl (by rw [hln_1]; decide) dX13_word_27 ?_
      clear hP hD hS
      intro H locs hP hD hS
      obtain ⟨fs_5, efs_5⟩ : ∃ zf : List Value, zf = z_1.set 23 (.int (v23 + 1)) := ⟨_, rfl⟩
      rw [← efs_5] at hP hD
      have hlfs_5 : fs_5.length = 155 := by rw [efs_5, List.length_set]; exact hln_1
      have hfs_5_4 : fs_5[4]? = some (.ref qf4) := by rw [efs_5, List.getElem?_set_ne (by decide)]; exact hfk_1_4
      have hfs_5_5 : fs_5[5]? = some (.ref qf5) := by rw [efs_5, List.getElem?_set_ne (by decide)]; exact hfk_1_5
      have hfs_5_7 : fs_5[7]? = some (.ref qf7) := by rw [efs_5, List.getElem?_set_ne (by decide)]; exact hfk_1_7
      have hfs_5_9 : fs_5[9]? = some (.int v9) := by rw [efs_5, List.getElem?_set_ne (by decide)]; exact hfk_1_9
      have hfs_5_10 : fs_5[10]? = some (.int v10) := by rw [efs_5, List.getElem?_set_ne (by decide)]; exact hfk_1_10
      have hfs_5_23 : fs_5[23]? = some (.int (v23 + 1)) := by rw [efs_5, List.getElem?_set_self (by rw [hln_1]; decide)]
      replace hP : va_P (dC, dI) vwCl [(qf5, .inl (cf5, 3002, .inl f5)), (h0, .inr (13, fs_5)), (qf4, .inl (cf4, 3008, .inl f4)), (qf7, .inl (cf7, 3002, .inl f7))] H := hP
      replace hD : va_D A [(qf5, .inl (cf5, 3002, .inl f5)), (h0, .inr (13, fs_5)), (qf4, .inl (cf4, 3008, .inl f4)), (qf7, .inl (cf7, 3002, .inl f7))] := hD
      have hrs_6 : ∀ j : Nat, j ≠ 10 → j ≠ 23 → j ≠ 9 → fs_5[j]? = zs[j]? := fun j g10 g23 g9 => ((congrArg (fun z : List Value => z[j]?) efs_5).trans (List.getElem?_set_ne (Ne.symm g23))).trans (hrq_1 j g10 g23 g9)
      refine lv_goto (tgt := 37) hx hb dX13_word_30 (by decide) ?_
      have hr0 := Option.some.inj hsp
      clear hsp
      obtain ⟨hq0, hr1⟩ := Prod.mk.inj hr0
      clear hr0
      obtain ⟨hq1, hr2⟩ := Prod.mk.inj hr1
      clear hr1
      subst hq0
      subst hq1
      subst hr2
      have hP9 := hP.sub (ws' := [(h0, .inr (13, fs_5)), (qf4, .inl (cf4, 3008, .inl f4)), (qf7, .inl (cf7, 3002, .inl f7)), (qf5, .inl (cf5, 3002, .inl f5))]) [1, 2, 3, 0] rfl
      have hD9 := hD.sub (ws' := [(h0, .inr (13, fs_5)), (qf4, .inl (cf4, 3008, .inl f4)), (qf7, .inl (cf7, 3002, .inl f7)), (qf5, .inl (cf5, 3002, .inl f5))]) [1, 2, 3, 0] (by decide) rfl
      have hK9 := hK.sub (tys' := [(cf4, .int), (cf7, .int), (cf5, .int)]) [1, 2, 0] rfl
      exact W.vret hx hb hr (fun t ht hW => ⟨⟨(fs_5), rfl, ⟨trivial, hlfs_5, hrs_6, hfs_5_10, hfs_5_23, hfs_5_9⟩, by rw [ht]; exact hP9, va_K.moved hW.alike hK9, hD9⟩, hS.F ht⟩) hS.2.2 dX13_word_37
  · rw [if_neg c_1] at hsp
    have hr0 := Option.some.inj hsp
    clear hsp
    obtain ⟨hq0, hr1⟩ := Prod.mk.inj hr0
    clear hr0
    obtain ⟨hq1, hr2⟩ := Prod.mk.inj hr1
    clear hr1
    subst hq0
    subst hq1
    subst hr2
    have hP9 := hP.sub (ws' := [(h0, .inr (13, zs)), (qf4, .inl (cf4, 3008, .inl f4)), (qf7, .inl (cf7, 3002, .inl f7)), (qf5, .inl (cf5, 3002, .inl f5))]) [0, 1, 2, 3] rfl
    have hD9 := hD.sub (ws' := [(h0, .inr (13, zs)), (qf4, .inl (cf4, 3008, .inl f4)), (qf7, .inl (cf7, 3002, .inl f7)), (qf5, .inl (cf5, 3002, .inl f5))]) [0, 1, 2, 3] (by decide) rfl
    have hK9 := hK.sub (tys' := [(cf4, .int), (cf7, .int), (cf5, .int)]) [0, 1, 2] rfl
    exact W.vret hx hb hr (fun t ht hW => ⟨⟨(zs), rfl, ⟨trivial, hlen, hrs0, hf10, hf23, hf9⟩, by rw [ht]; exact hP9, va_K.moved hW.alike hK9, hD9⟩, hS.F ht⟩) hS.2.2 dX13_word_7
def sp_tm_name (nf : Nat) (v9 : Int32) (v10 : Int32) (v23 : Int32) (f4 : Nat → Int32) (f5 : Nat → Int32) : Option (Int32 × Int32 × Int32 × Int32) := (if v9 = 0 then (if v23 < 0 then none else if 3008 ≤ (v23 : Int32).toNatClampNeg then none else (if (f4 (v23 : Int32).toNatClampNeg) = 1 then (some (((v23 + 1) - 1), v10, (v23 + 1), v9)) else ((sp_tm_misplaced nf v9 v10 v23 f4 f5).bind (fun p1 => (some (0, p1.1, v23, p1.2)))))) else (some (0, v10, v23, v9)))
set_option maxHeartbeats 4000000 in
set_option maxRecDepth 100000 in
/-- ClassMillModel.name -/
theorem tm_name (l : Launch) (dC : Nat → ClassId) (dI : Nat → Nat → Nat) (sz : Nat) (h0 : Nat) (zs : (List Value)) (qf4 : Nat) (qf5 : Nat) (v9 : Int32) (v10 : Int32) (v23 : Int32) (cf4 : ClassId) (f4 : (Nat → Int32)) (cf5 : ClassId) (f5 : (Nat → Int32)) (nf : Nat) (r0 : Int32) (w10 : Int32) (w23 : Int32) (w9 : Int32) (hlen : zs.length = 155) (hf4 : zs[4]? = some (.ref qf4)) (hf5 : zs[5]? = some (.ref qf5)) (hf9 : zs[9]? = some (.int v9)) (hf10 : zs[10]? = some (.int v10)) (hf23 : zs[23]? = some (.int v23)) (hsp : sp_tm_name nf v9 v10 v23 f4 f5 = some (r0, w10, w23, w9)) : Met l yX13_name (.code yX13_name cX13_name 1 (some .int) :: VS_h5) ({ frames := 2, cells := 0, slots := 0, locals := 42 }) (va_Pc [.ref h0] (fun U => U.heap.size = sz ∧ va_P (dC, dI) vwCl [(h0, .inr (13, zs)), (qf4, .inl (cf4, 3008, .inl f4)), (qf5, .inl (cf5, 3002, .inl f5))] U.heap ∧ va_K (dC, dI) vwCl [(cf4, .int), (cf5, .int)] U ∧ va_D (fun _ => True) [(h0, .inr (13, zs)), (qf4, .inl (cf4, 3008, .inl f4)), (qf5, .inl (cf5, 3002, .inl f5))])) (va_Qi (fun (r : Int32) (u : (List Value)) => match u with | (zo1) => r0 = r ∧ zo1.length = 155 ∧ (∀ j : Nat, j ≠ 10 → j ≠ 23 → j ≠ 9 → zo1[j]? = zs[j]?) ∧ zo1[10]? = some (.int w10) ∧ zo1[23]? = some (.int w23) ∧ zo1[9]? = some (.int w9)) (fun (u : (List Value)) (t : State) => match u with | (zo1) => va_P (dC, dI) vwCl [(h0, .inr (13, zo1)), (qf4, .inl (cf4, 3008, .inl f4)), (qf5, .inl (cf5, 3002, .inl f5))] t.heap ∧ va_K (dC, dI) vwCl [(cf4, .int), (cf5, .int)] t ∧ va_D (va_A [(h0, .inr (13, zs)), (qf4, .inl (cf4, 3008, .inl f4)), (qf5, .inl (cf5, 3002, .inl f5))] sz) [(h0, .inr (13, zo1)), (qf4, .inl (cf4, 3008, .inl f4)), (qf5, .inl (cf5, 3002, .inl f5))]) (va_A [(h0, .inr (13, zs)), (qf4, .inl (cf4, 3008, .inl f4)), (qf5, .inl (cf5, 3002, .inl f5))] sz)) 0 0 (va_A [(h0, .inr (13, zs)), (qf4, .inl (cf4, 3008, .inl f4)), (qf5, .inl (cf5, 3002, .inl f5))] sz) := by
  refine Met.ofW (cc := cX13_name) (maxL := 1) (ret := (some .int)) (by decide) rfl ?_
  intro p e s m args below meth c s₁ B hml hv
  obtain ⟨rfl, hsz, hP, hK, hD0⟩ := hv
  have hx := B.exec
  have hb := B.bytes
  have hr := B.returns
  have hts := atoms_spec (ws := (.code yX13_name cX13_name 1 (some .int) :: VS_h5)) B.pre
  replace hts := fun w (h : w ∈ VS_h5) => hts w (List.mem_cons_of_mem _ h)
  have hown : s.vm.findClass RX13 = some m.cls := findClass_of_methodNamed B.named
  have hlocks := B.notSynchronized
  subst hsz
  have hD := hD0.self (sz := s.heap.size)
  generalize hAe : va_A [(h0, .inr (13, zs)), (qf4, .inl (cf4, 3008, .inl f4)), (qf5, .inl (cf5, 3002, .inl f5))] s.heap.size = A at hD  ⊢
  have hA : ∀ q : Nat, s.heap.size ≤ q → A q := fun q h => by rw [← hAe]; exact Or.inr h
  have hP : va_P (dC, dI) vwCl [(h0, .inr (13, zs)), (qf4, .inl (cf4, 3008, .inl f4)), (qf5, .inl (cf5, 3002, .inl f5))] s.heap := hP
  have hl := lv_entry ([.ref h0]) (n := 1) (Nat.le_of_ble_eq_true rfl)
  rw [lg_entry_eq]
  generalize (lg_sl ([.ref h0]) ++ List.replicate (1 - (lg_sl ([.ref h0])).length) Slot.unset).toArray = ls at hl ⊢
  have hl : lv_has ls 1 [(0, .ref h0)] := hl
  obtain ⟨H, hH⟩ : ∃ H : Heap, s.heap = H := ⟨_, rfl⟩
  rw [hH] at hP ⊢
  have hS : va_S A s.heap H [] := by rw [← hH]; exact va_S.rf
  obtain ⟨locs, hlo⟩ : ∃ locs : List Loc, locs = [] := ⟨_, rfl⟩
  rw [← hlo] at hS ⊢
  have hrs0 : ∀ j : Nat, j ≠ 10 → j ≠ 23 → j ≠ 9 → zs[j]? = zs[j]? := fun _ _ _ _  => rfl
  unfold sp_tm_name at hsp
  refine lv_aload_n hx hb dX13_name_0 rfl (lv_at hl 0 rfl) ?_
  refine va_get (D := (dC, dI)) (ci := 13) (v := .int v9) (C := RX13) (T := TX13) (N := 155) hx hb hts uV_h5_X13 hown hK hP 0 rfl rfl 9 (by decide) (hts (.fieldLink RX13 319 "ClassMillModel" "fault" "I") mw_h5_1) (fun _ h9 => h9) hf9 dX13_name_1 ?_
  refine lv_if_eq (tgt := 9) hx hb dX13_name_4 (by decide) (fun c_1 => ?_) (fun c_1 => ?_)
  · rw [if_pos c_1] at hsp
    refine lv_aload_n hx hb dX13_name_9 rfl (lv_at hl 0 rfl) ?_
    refine va_get (D := (dC, dI)) (ci := 13) (v := .ref qf4) (C := RX13) (T := TX13) (N := 155) hx hb hts uV_h5_X13 hown hK hP 0 rfl rfl 4 (by decide) (hts (.fieldLink RX13 16 "ClassMillModel" "kind" "[I") mw_h5_6) (fun _ h9 => h9) hf4 dX13_name_10 ?_
    refine lv_aload_n hx hb dX13_name_13 rfl (lv_at hl 0 rfl) ?_
    refine va_get (D := (dC, dI)) (ci := 13) (v := .int v23) (C := RX13) (T := TX13) (N := 155) hx hb hts uV_h5_X13 hown hK hP 0 rfl rfl 23 (by decide) (hts (.fieldLink RX13 376 "ClassMillModel" "cursor" "I") mw_h5_15) (fun _ h9 => h9) hf23 dX13_name_14 ?_
    obtain ⟨hi_2, hsp⟩ := ox_in hsp
    refine va_iald hx hb hK hP 1 0 rfl rfl (i := v23) hi_2 dX13_name_17 ?_
    refine lv_iconst (v := 1) hx hb dX13_name_18 (by decide) ?_
    refine lv_icmp_eq (tgt := 28) hx hb dX13_name_19 (by decide) (fun c_3 => ?_) (fun c_3 => ?_)
    · rw [if_pos c_3] at hsp
      refine lv_aload_n hx hb dX13_name_28 rfl (lv_at hl 0 rfl) ?_
      refine lv_dup hx hb dX13_name_29 rfl ?_
      refine va_get (D := (dC, dI)) (ci := 13) (v := .int v23) (C := RX13) (T := TX13) (N := 155) hx hb hts uV_h5_X13 hown hK hP 0 rfl rfl 23 (by decide) (hts (.fieldLink RX13 376 "ClassMillModel" "cursor" "I") mw_h5_15) (fun _ h9 => h9) hf23 dX13_name_30 ?_
      refine lv_iconst (v := 1) hx hb dX13_name_33 (by decide) ?_
      refine lv_iadd hx hb dX13_name_34 ?_
      refine va_put (D := (dC, dI)) (ci := 13) (v := .int (v23 + 1)) (ty := .int) (C := RX13) (T := TX13) (N := 155) hx hb hts uV_h5_X13 tyX13 tyX13_ok nmX13 hown hK hP hD hS 0 rfl rfl 23 (by decide) (hts (.fieldLink RX13 376 "ClassMillModel" "cursor" "I") mw_h5_15) (fun _ h9 => h9) rfl (by decide +kernel) rfl rfl (by rw [hlen]; decide) dX13_name_35 ?_
      clear hP hD hS
      intro H locs hP hD hS
      obtain ⟨fs_4, efs_4⟩ : ∃ zf : List Value, zf = zs.set 23 (.int (v23 + 1)) := ⟨_, rfl⟩
      rw [← efs_4] at hP hD
      have hlfs_4 : fs_4.length = 155 := by rw [efs_4, List.length_set]; exact hlen
      have hfs_4_4 : fs_4[4]? = some (.ref qf4) := by rw [efs_4, List.getElem?_set_ne (by decide)]; exact hf4
      have hfs_4_5 : fs_4[5]? = some (.ref qf5) := by rw [efs_4, List.getElem?_set_ne (by decide)]; exact hf5
      have hfs_4_9 : fs_4[9]? = some (.int v9) := by rw [efs_4, List.getElem?_set_ne (by decide)]; exact hf9
      have hfs_4_10 : fs_4[10]? = some (.int v10) := by rw [efs_4, List.getElem?_set_ne (by decide)]; exact hf10
      have hfs_4_23 : fs_4[23]? = some (.int (v23 + 1)) := by rw [efs_4, List.getElem?_set_self (by rw [hlen]; decide)]
      replace hP : va_P (dC, dI) vwCl [(h0, .inr (13, fs_4)), (qf4, .inl (cf4, 3008, .inl f4)), (qf5, .inl (cf5, 3002, .inl f5))] H := hP
      replace hD : va_D A [(h0, .inr (13, fs_4)), (qf4, .inl (cf4, 3008, .inl f4)), (qf5, .inl (cf5, 3002, .inl f5))] := hD
      have hrs_5 : ∀ j : Nat, j ≠ 10 → j ≠ 23 → j ≠ 9 → fs_4[j]? = zs[j]? := fun j g10 g23 g9 => ((congrArg (fun z : List Value => z[j]?) efs_4).trans (List.getElem?_set_ne (Ne.symm g23))).trans (hrs0 j g10 g23 g9)
      refine lv_aload_n hx hb dX13_name_38 rfl (lv_at hl 0 rfl) ?_
      refine va_get (D := (dC, dI)) (ci := 13) (v := .int (v23 + 1)) (C := RX13) (T := TX13) (N := 155) hx hb hts uV_h5_X13 hown hK hP 0 rfl rfl 23 (by decide) (hts (.fieldLink RX13 376 "ClassMillModel" "cursor" "I") mw_h5_15) (fun _ h9 => h9) hfs_4_23 dX13_name_39 ?_
      refine lv_iconst (v := 1) hx hb dX13_name_42 (by decide) ?_
      refine lv_isub hx hb dX13_name_43 ?_
      have hr0 := Option.some.inj hsp
      clear hsp
      obtain ⟨hq0, hr1⟩ := Prod.mk.inj hr0
      clear hr0
      obtain ⟨hq1, hr2⟩ := Prod.mk.inj hr1
      clear hr1
      obtain ⟨hq2, hr3⟩ := Prod.mk.inj hr2
      clear hr2
      subst hq0
      subst hq1
      subst hq2
      subst hr3
      have hP9 := hP.sub (ws' := [(h0, .inr (13, fs_4)), (qf4, .inl (cf4, 3008, .inl f4)), (qf5, .inl (cf5, 3002, .inl f5))]) [0, 1, 2] rfl
      have hD9 := hD.sub (ws' := [(h0, .inr (13, fs_4)), (qf4, .inl (cf4, 3008, .inl f4)), (qf5, .inl (cf5, 3002, .inl f5))]) [0, 1, 2] (by decide) rfl
      have hK9 := hK.sub (tys' := [(cf4, .int), (cf5, .int)]) [0, 1] rfl
      exact W.iret hx hb hr (fun t ht hW => ⟨⟨(((v23 + 1) - 1)), (fs_4), rfl, ⟨rfl, hlfs_4, hrs_5, hfs_4_10, hfs_4_23, hfs_4_9⟩, by rw [ht]; exact hP9, va_K.moved hW.alike hK9, hD9⟩, hS.F ht⟩) hS.2.2 dX13_name_44
    · rw [if_neg c_3] at hsp
      refine lv_aload_n hx hb dX13_name_22 rfl (lv_at hl 0 rfl) ?_
      obtain ⟨⟨u1_0, u1_1⟩, hu_1, hsp⟩ := ox_bind hsp
      try dsimp only at hsp
      have hPc := hP.sub (ws' := [(h0, .inr (13, zs)), (qf4, .inl (cf4, 3008, .inl f4)), (qf5, .inl (cf5, 3002, .inl f5))]) [0, 1, 2] rfl
      have hDc := hD.sub (ws' := [(h0, .inr (13, zs)), (qf4, .inl (cf4, 3008, .inl f4)), (qf5, .inl (cf5, 3002, .inl f5))]) [0, 1, 2] (by decide) rfl
      have hKc := hK.sub (tys' := [(cf4, .int), (cf5, .int)]) [0, 1] rfl
      have hFc := va_free (wc := [(h0, .inr (13, zs)), (qf4, .inl (cf4, 3008, .inl f4)), (qf5, .inl (cf5, 3002, .inl f5))]) hD hS hA [0, 1, 2] rfl
      refine va_callv (va_runV (As := []) (rest := []) ⟨hx, hb, hml, hown, hts⟩ (tm_misplaced l dC dI H.size h0 zs qf4 qf5 v9 v10 v23 cf4 f4 cf5 f5 nf u1_0 u1_1 hlen hf4 hf5 hf9 hf10 hf23 hu_1) (cwV 0 hts gv_h5_2 rfl rfl rfl (by decide +kernel) ⟨Nat.le_of_ble_eq_true rfl, Nat.le_of_ble_eq_true rfl⟩) ⟨fun a U g mk q => by obtain ⟨q0, q1, qP, qK, qD⟩ := q; exact ⟨q0, q1, qP, va_K.moved (u := U) (U := U.calling g mk a) (Vm.Alike.refl U.vm) qK, qD⟩, va_recv hKc hPc (ci := 13) (q0 := 0) rfl rfl, fun U hU hW => ⟨rfl, by rw [hU], by rw [hU]; exact hPc, va_K.moved hW.alike hKc, hDc.weaken (fun _ _ _ _ => trivial)⟩⟩ rfl rfl hl.1 rfl (lv_room (Nat.le_of_ble_eq_true rfl)) dX13_name_23 ⟨Nat.le_of_ble_eq_true rfl, Nat.le_of_ble_eq_true rfl⟩) hS (fun q _ h => hFc q h) hFc ?_
      clear hS
      intro u t H1 locs ht hvm hw hB hz1 hk1 hS
      obtain ⟨z_1, rfl⟩ : ∃ z, z = u := ⟨_, rfl⟩
      obtain ⟨hP1, hK1, hD1⟩ := hB
      rw [ht] at hP1
      have hK1 := va_K.moved hvm.symm hK1
      try dsimp only at hw
      have hPD := va_join (wr := []) (w1 := [(h0, .inr (13, z_1)), (qf4, .inl (cf4, 3008, .inl f4)), (qf5, .inl (cf5, 3002, .inl f5))]) hP hD [0, 1, 2] [] rfl rfl (by decide) (by decide) hk1 hFc hP1 hD1
      clear hP hD
      obtain ⟨hP, hD⟩ := hPD
      replace hK := (hK.sub (tys' := []) [] rfl).app hK1
      clear hPc hDc hKc hFc hP1 hK1 hD1 hz1 hk1 ht hvm
      generalize H1 = H at hP hS ⊢
      replace hP : va_P (dC, dI) vwCl [(h0, .inr (13, z_1)), (qf4, .inl (cf4, 3008, .inl f4)), (qf5, .inl (cf5, 3002, .inl f5))] H := hP
      replace hD : va_D A [(h0, .inr (13, z_1)), (qf4, .inl (cf4, 3008, .inl f4)), (qf5, .inl (cf5, 3002, .inl f5))] := hD
      replace hK : va_K (dC, dI) vwCl [(cf4, .int), (cf5, .int)] s := hK
      obtain ⟨hwa_1, hln_1, hre_1, hch_1_10, hch_1_9⟩ := hw
      have hfk_1_4 : z_1[4]? = some (.ref qf4) := (hre_1 4 (by decide) (by decide)).trans (hf4)
      have hfk_1_5 : z_1[5]? = some (.ref qf5) := (hre_1 5 (by decide) (by decide)).trans (hf5)
      have hfk_1_23 : z_1[23]? = some (.int v23) := (hre_1 23 (by decide) (by decide)).trans (hf23)
      have hrq_1 : ∀ j : Nat, j ≠ 10 → j ≠ 23 → j ≠ 9 → z_1[j]? = zs[j]? := fun j g10 g23 g9 => (hre_1 j g10 g9).trans (hrs0 j g10 g23 g9)
      refine lv_iconst (v := 0) hx hb dX13_name_26 (by decide) ?_
      have hr0 := Option.some.inj hsp
      clear hsp
      obtain ⟨hq0, hr1⟩ := Prod.mk.inj hr0
      clear hr0
      obtain ⟨hq1, hr2⟩ := Prod.mk.inj hr1
      clear hr1
      obtain ⟨hq2, hr3⟩ := Prod.mk.inj hr2
      clear hr2
      subst hq0
      subst hq1
      subst hq2
      subst hr3
      have hP9 := hP.sub (ws' := [(h0, .inr (13, z_1)), (qf4, .inl (cf4, 3008, .inl f4)), (qf5, .inl (cf5, 3002, .inl f5))]) [0, 1, 2] rfl
      have hD9 := hD.sub (ws' := [(h0, .inr (13, z_1)), (qf4, .inl (cf4, 3008, .inl f4)), (qf5, .inl (cf5, 3002, .inl f5))]) [0, 1, 2] (by decide) rfl
      have hK9 := hK.sub (tys' := [(cf4, .int), (cf5, .int)]) [0, 1] rfl
      exact W.iret hx hb hr (fun t ht hW => ⟨⟨(0), (z_1), rfl, ⟨rfl, hln_1, hrq_1, hch_1_10, hfk_1_23, hch_1_9⟩, by rw [ht]; exact hP9, va_K.moved hW.alike hK9, hD9⟩, hS.F ht⟩) hS.2.2 dX13_name_27
  · rw [if_neg c_1] at hsp
    refine lv_iconst (v := 0) hx hb dX13_name_7 (by decide) ?_
    have hr0 := Option.some.inj hsp
    clear hsp
    obtain ⟨hq0, hr1⟩ := Prod.mk.inj hr0
    clear hr0
    obtain ⟨hq1, hr2⟩ := Prod.mk.inj hr1
    clear hr1
    obtain ⟨hq2, hr3⟩ := Prod.mk.inj hr2
    clear hr2
    subst hq0
    subst hq1
    subst hq2
    subst hr3
    have hP9 := hP.sub (ws' := [(h0, .inr (13, zs)), (qf4, .inl (cf4, 3008, .inl f4)), (qf5, .inl (cf5, 3002, .inl f5))]) [0, 1, 2] rfl
    have hD9 := hD.sub (ws' := [(h0, .inr (13, zs)), (qf4, .inl (cf4, 3008, .inl f4)), (qf5, .inl (cf5, 3002, .inl f5))]) [0, 1, 2] (by decide) rfl
    have hK9 := hK.sub (tys' := [(cf4, .int), (cf5, .int)]) [0, 1] rfl
    exact W.iret hx hb hr (fun t ht hW => ⟨⟨(0), (zs), rfl, ⟨rfl, hlen, hrs0, hf10, hf23, hf9⟩, by rw [ht]; exact hP9, va_K.moved hW.alike hK9, hD9⟩, hS.F ht⟩) hS.2.2 dX13_name_8
def sp_tm_isDeep (nf : Nat) (a1 : Int32) (v9 : Int32) (v10 : Int32) (v23 : Int32) (f4 : Nat → Int32) (f5 : Nat → Int32) : Option (Int32 × Int32 × Int32) := (if v9 = 0 then (if 40 ≤ a1 then (if v23 < 0 then none else if 3008 ≤ (v23 : Int32).toNatClampNeg then none else (if (f4 (v23 : Int32).toNatClampNeg) = 6 then ((sp_tm_wrong nf 1 v23 v9 v10 f5).bind (fun p2 => (some (1, p2.1, p2.2)))) else ((sp_tm_wrong nf 3 v23 v9 v10 f5).bind (fun p1 => (some (1, p1.1, p1.2)))))) else (some (0, v10, v9))) else (some (1, v10, v9)))
set_option maxHeartbeats 4000000 in
set_option maxRecDepth 100000 in
/-- ClassMillModel.isDeep -/
theorem tm_isDeep (l : Launch) (dC : Nat → ClassId) (dI : Nat → Nat → Nat) (sz : Nat) (h0 : Nat) (zs : (List Value)) (a1 : Int32) (qf4 : Nat) (qf5 : Nat) (v9 : Int32) (v10 : Int32) (v23 : Int32) (cf4 : ClassId) (f4 : (Nat → Int32)) (cf5 : ClassId) (f5 : (Nat → Int32)) (nf : Nat) (r0 : Int32) (w10 : Int32) (w9 : Int32) (hlen : zs.length = 155) (hf4 : zs[4]? = some (.ref qf4)) (hf5 : zs[5]? = some (.ref qf5)) (hf9 : zs[9]? = some (.int v9)) (hf10 : zs[10]? = some (.int v10)) (hf23 : zs[23]? = some (.int v23)) (hsp : sp_tm_isDeep nf a1 v9 v10 v23 f4 f5 = some (r0, w10, w9)) : Met l yX13_isDeep (.code yX13_isDeep cX13_isDeep 2 (some .boolean) :: VS_h5) ({ frames := 1, cells := 0, slots := 0, locals := 22 }) (va_Pc [.ref h0, .int a1] (fun U => U.heap.size = sz ∧ va_P (dC, dI) vwCl [(h0, .inr (13, zs)), (qf4, .inl (cf4, 3008, .inl f4)), (qf5, .inl (cf5, 3002, .inl f5))] U.heap ∧ va_K (dC, dI) vwCl [(cf4, .int), (cf5, .int)] U ∧ va_D (fun _ => True) [(h0, .inr (13, zs)), (qf4, .inl (cf4, 3008, .inl f4)), (qf5, .inl (cf5, 3002, .inl f5))])) (va_Qi (fun (r : Int32) (u : (List Value)) => match u with | (zo1) => (r0 = r ∧ (r0 = 0 ∨ r0 = 1)) ∧ zo1.length = 155 ∧ (∀ j : Nat, j ≠ 10 → j ≠ 9 → zo1[j]? = zs[j]?) ∧ zo1[10]? = some (.int w10) ∧ zo1[9]? = some (.int w9)) (fun (u : (List Value)) (t : State) => match u with | (zo1) => va_P (dC, dI) vwCl [(h0, .inr (13, zo1)), (qf4, .inl (cf4, 3008, .inl f4)), (qf5, .inl (cf5, 3002, .inl f5))] t.heap ∧ va_K (dC, dI) vwCl [(cf4, .int), (cf5, .int)] t ∧ va_D (va_A [(h0, .inr (13, zs)), (qf4, .inl (cf4, 3008, .inl f4)), (qf5, .inl (cf5, 3002, .inl f5))] sz) [(h0, .inr (13, zo1)), (qf4, .inl (cf4, 3008, .inl f4)), (qf5, .inl (cf5, 3002, .inl f5))]) (va_A [(h0, .inr (13, zs)), (qf4, .inl (cf4, 3008, .inl f4)), (qf5, .inl (cf5, 3002, .inl f5))] sz)) 0 0 (va_A [(h0, .inr (13, zs)), (qf4, .inl (cf4, 3008, .inl f4)), (qf5, .inl (cf5, 3002, .inl f5))] sz) := by
  refine Met.ofW (cc := cX13_isDeep) (maxL := 2) (ret := (some .boolean)) (by decide) rfl ?_
  intro p e s m args below meth c s₁ B hml hv
  obtain ⟨rfl, hsz, hP, hK, hD0⟩ := hv
  have hx := B.exec
  have hb := B.bytes
  have hr := B.returns
  have hts := atoms_spec (ws := (.code yX13_isDeep cX13_isDeep 2 (some .boolean) :: VS_h5)) B.pre
  replace hts := fun w (h : w ∈ VS_h5) => hts w (List.mem_cons_of_mem _ h)
  have hown : s.vm.findClass RX13 = some m.cls := findClass_of_methodNamed B.named
  have hlocks := B.notSynchronized
  subst hsz
  have hD := hD0.self (sz := s.heap.size)
  generalize hAe : va_A [(h0, .inr (13, zs)), (qf4, .inl (cf4, 3008, .inl f4)), (qf5, .inl (cf5, 3002, .inl f5))] s.heap.size = A at hD  ⊢
  have hA : ∀ q : Nat, s.heap.size ≤ q → A q := fun q h => by rw [← hAe]; exact Or.inr h
  have hP : va_P (dC, dI) vwCl [(h0, .inr (13, zs)), (qf4, .inl (cf4, 3008, .inl f4)), (qf5, .inl (cf5, 3002, .inl f5))] s.heap := hP
  have hl := lv_entry ([.ref h0, .int a1]) (n := 2) (Nat.le_of_ble_eq_true rfl)
  rw [lg_entry_eq]
  generalize (lg_sl ([.ref h0, .int a1]) ++ List.replicate (2 - (lg_sl ([.ref h0, .int a1])).length) Slot.unset).toArray = ls at hl ⊢
  have hl : lv_has ls 2 [(0, .ref h0), (1, .int a1)] := hl
  obtain ⟨H, hH⟩ : ∃ H : Heap, s.heap = H := ⟨_, rfl⟩
  rw [hH] at hP ⊢
  have hS : va_S A s.heap H [] := by rw [← hH]; exact va_S.rf
  obtain ⟨locs, hlo⟩ : ∃ locs : List Loc, locs = [] := ⟨_, rfl⟩
  rw [← hlo] at hS ⊢
  have hrs0 : ∀ j : Nat, j ≠ 10 → j ≠ 9 → zs[j]? = zs[j]? := fun _ _ _  => rfl
  unfold sp_tm_isDeep at hsp
  refine lv_aload_n hx hb dX13_isDeep_0 rfl (lv_at hl 0 rfl) ?_
  refine va_get (D := (dC, dI)) (ci := 13) (v := .int v9) (C := RX13) (T := TX13) (N := 155) hx hb hts uV_h5_X13 hown hK hP 0 rfl rfl 9 (by decide) (hts (.fieldLink RX13 319 "ClassMillModel" "fault" "I") mw_h5_1) (fun _ h9 => h9) hf9 dX13_isDeep_1 ?_
  refine lv_if_eq (tgt := 9) hx hb dX13_isDeep_4 (by decide) (fun c_1 => ?_) (fun c_1 => ?_)
  · rw [if_pos c_1] at hsp
    refine lv_iload_n hx hb dX13_isDeep_9 rfl (lv_at hl 1 rfl) ?_
    refine lv_bipush (v := 40) hx hb dX13_isDeep_10 (by decide) ?_
    refine lv_icmp_ge (tgt := 17) hx hb dX13_isDeep_12 (by decide) (fun c_2 => ?_) (fun c_2 => ?_)
    · rw [if_pos c_2] at hsp
      refine lv_aload_n hx hb dX13_isDeep_17 rfl (lv_at hl 0 rfl) ?_
      refine lv_aload_n hx hb dX13_isDeep_18 rfl (lv_at hl 0 rfl) ?_
      refine va_get (D := (dC, dI)) (ci := 13) (v := .ref qf4) (C := RX13) (T := TX13) (N := 155) hx hb hts uV_h5_X13 hown hK hP 0 rfl rfl 4 (by decide) (hts (.fieldLink RX13 16 "ClassMillModel" "kind" "[I") mw_h5_6) (fun _ h9 => h9) hf4 dX13_isDeep_19 ?_
      refine lv_aload_n hx hb dX13_isDeep_22 rfl (lv_at hl 0 rfl) ?_
      refine va_get (D := (dC, dI)) (ci := 13) (v := .int v23) (C := RX13) (T := TX13) (N := 155) hx hb hts uV_h5_X13 hown hK hP 0 rfl rfl 23 (by decide) (hts (.fieldLink RX13 376 "ClassMillModel" "cursor" "I") mw_h5_15) (fun _ h9 => h9) hf23 dX13_isDeep_23 ?_
      obtain ⟨hi_3, hsp⟩ := ox_in hsp
      refine va_iald hx hb hK hP 1 0 rfl rfl (i := v23) hi_3 dX13_isDeep_26 ?_
      refine lv_bipush (v := 6) hx hb dX13_isDeep_27 (by decide) ?_
      refine lv_icmp_ne (tgt := 36) hx hb dX13_isDeep_29 (by decide) (fun c_4 => ?_) (fun c_4 => ?_)
      · rw [if_neg c_4] at hsp
        refine lv_iconst (v := 3) hx hb dX13_isDeep_36 (by decide) ?_
        refine lv_aload_n hx hb dX13_isDeep_37 rfl (lv_at hl 0 rfl) ?_
        refine va_get (D := (dC, dI)) (ci := 13) (v := .int v23) (C := RX13) (T := TX13) (N := 155) hx hb hts uV_h5_X13 hown hK hP 0 rfl rfl 23 (by decide) (hts (.fieldLink RX13 376 "ClassMillModel" "cursor" "I") mw_h5_15) (fun _ h9 => h9) hf23 dX13_isDeep_38 ?_
        obtain ⟨⟨u1_0, u1_1⟩, hu_1, hsp⟩ := ox_bind hsp
        try dsimp only at hsp
        have hPc := hP.sub (ws' := [(h0, .inr (13, zs)), (qf5, .inl (cf5, 3002, .inl f5))]) [0, 2] rfl
        have hDc := hD.sub (ws' := [(h0, .inr (13, zs)), (qf5, .inl (cf5, 3002, .inl f5))]) [0, 2] (by decide) rfl
        have hKc := hK.sub (tys' := [(cf5, .int)]) [1] rfl
        have hFc := va_free (wc := [(h0, .inr (13, zs)), (qf5, .inl (cf5, 3002, .inl f5))]) hD hS hA [0, 2] rfl
        refine va_callv (va_runV (As := [.int 3, .int v23]) (rest := []) ⟨hx, hb, hml, hown, hts⟩ (tm_wrong l dC dI H.size h0 zs 3 v23 qf5 v9 v10 cf5 f5 nf u1_0 u1_1 hlen hf5 hf9 hf10 hu_1) (cwV 2 hts gv_h5_0 rfl rfl rfl (by decide +kernel) ⟨Nat.le_of_ble_eq_true rfl, Nat.le_of_ble_eq_true rfl⟩) ⟨fun a U g mk q => by obtain ⟨q0, q1, qP, qK, qD⟩ := q; exact ⟨q0, q1, qP, va_K.moved (u := U) (U := U.calling g mk a) (Vm.Alike.refl U.vm) qK, qD⟩, va_recv hKc hPc (ci := 13) (q0 := 0) rfl rfl, fun U hU hW => ⟨rfl, by rw [hU], by rw [hU]; exact hPc, va_K.moved hW.alike hKc, hDc.weaken (fun _ _ _ _ => trivial)⟩⟩ rfl rfl hl.1 rfl (lv_room (Nat.le_of_ble_eq_true rfl)) dX13_isDeep_41 ⟨Nat.le_of_ble_eq_true rfl, Nat.le_of_ble_eq_true rfl⟩) hS (fun q _ h => hFc q h) hFc ?_
        clear hS
        intro u t H1 locs ht hvm hw hB hz1 hk1 hS
        obtain ⟨z_1, rfl⟩ : ∃ z, z = u := ⟨_, rfl⟩
        obtain ⟨hP1, hK1, hD1⟩ := hB
        rw [ht] at hP1
        have hK1 := va_K.moved hvm.symm hK1
        try dsimp only at hw
        have hPD := va_join (wr := [(qf4, .inl (cf4, 3008, .inl f4))]) (w1 := [(h0, .inr (13, z_1)), (qf5, .inl (cf5, 3002, .inl f5))]) hP hD [0, 2] [1] rfl rfl (by decide) (by decide) hk1 hFc hP1 hD1
        clear hP hD
        obtain ⟨hP, hD⟩ := hPD
        replace hK := (hK.sub (tys' := [(cf4, .int)]) [0] rfl).app hK1
        clear hPc hDc hKc hFc hP1 hK1 hD1 hz1 hk1 ht hvm
        generalize H1 = H at hP hS ⊢
        replace hP : va_P (dC, dI) vwCl [(qf4, .inl (cf4, 3008, .inl f4)), (h0, .inr (13, z_1)), (qf5, .inl (cf5, 3002, .inl f5))] H := hP
        replace hD : va_D A [(qf4, .inl (cf4, 3008, .inl f4)), (h0, .inr (13, z_1)), (qf5, .inl (cf5, 3002, .inl f5))] := hD
        replace hK : va_K (dC, dI) vwCl [(cf4, .int), (cf5, .int)] s := hK
        obtain ⟨hwa_1, hln_1, hre_1, hch_1_10, hch_1_9⟩ := hw
        have hfk_1_4 : z_1[4]? = some (.ref qf4) := (hre_1 4 (by decide) (by decide)).trans (hf4)
        have hfk_1_5 : z_1[5]? = some (.ref qf5) := (hre_1 5 (by decide) (by decide)).trans (hf5)
        have hfk_1_23 : z_1[23]? = some (.int v23) := (hre_1 23 (by decide) (by decide)).trans (hf23)
        have hrq_1 : ∀ j : Nat, j ≠ 10 → j ≠ 9 → z_1[j]? = zs[j]? := fun j g10 g9 => (hre_1 j g10 g9).trans (hrs0 j g10 g9)
        refine lv_iconst (v := 1) hx hb dX13_isDeep_44 (by decide) ?_
        have hr0 := Option.some.inj hsp
        clear hsp
        obtain ⟨hq0, hr1⟩ := Prod.mk.inj hr0
        clear hr0
        obtain ⟨hq1, hr2⟩ := Prod.mk.inj hr1
        clear hr1
        subst hq0
        subst hq1
        subst hr2
        have hP9 := hP.sub (ws' := [(h0, .inr (13, z_1)), (qf4, .inl (cf4, 3008, .inl f4)), (qf5, .inl (cf5, 3002, .inl f5))]) [1, 0, 2] rfl
        have hD9 := hD.sub (ws' := [(h0, .inr (13, z_1)), (qf4, .inl (cf4, 3008, .inl f4)), (qf5, .inl (cf5, 3002, .inl f5))]) [1, 0, 2] (by decide) rfl
        have hK9 := hK.sub (tys' := [(cf4, .int), (cf5, .int)]) [0, 1] rfl
        exact W.zret hx hb hr (by decide) (fun t ht hW => ⟨⟨(1), (z_1), rfl, ⟨⟨rfl, Or.inr rfl⟩, hln_1, hrq_1, hch_1_10, hch_1_9⟩, by rw [ht]; exact hP9, va_K.moved hW.alike hK9, hD9⟩, hS.F ht⟩) hS.2.2 dX13_isDeep_45
      · rw [if_pos c_4] at hsp
        refine lv_iconst (v := 1) hx hb dX13_isDeep_32 (by decide) ?_
        refine lv_goto (tgt := 37) hx hb dX13_isDeep_33 (by decide) ?_
        refine lv_aload_n hx hb dX13_isDeep_37 rfl (lv_at hl 0 rfl) ?_
        refine va_get (D := (dC, dI)) (ci := 13) (v := .int v23) (C := RX13) (T := TX13) (N := 155) hx hb hts uV_h5_X13 hown hK hP 0 rfl rfl 23 (by decide) (hts (.fieldLink RX13 376 "ClassMillModel" "cursor" "I") mw_h5_15) (fun _ h9 => h9) hf23 dX13_isDeep_38 ?_
        obtain ⟨⟨u2_0, u2_1⟩, hu_2, hsp⟩ := ox_bind hsp
        try dsimp only at hsp
        have hPc := hP.sub (ws' := [(h0, .inr (13, zs)), (qf5, .inl (cf5, 3002, .inl f5))]) [0, 2] rfl
        have hDc := hD.sub (ws' := [(h0, .inr (13, zs)), (qf5, .inl (cf5, 3002, .inl f5))]) [0, 2] (by decide) rfl
        have hKc := hK.sub (tys' := [(cf5, .int)]) [1] rfl
        have hFc := va_free (wc := [(h0, .inr (13, zs)), (qf5, .inl (cf5, 3002, .inl f5))]) hD hS hA [0, 2] rfl
        refine va_callv (va_runV (As := [.int 1, .int v23]) (rest := []) ⟨hx, hb, hml, hown, hts⟩ (tm_wrong l dC dI H.size h0 zs 1 v23 qf5 v9 v10 cf5 f5 nf u2_0 u2_1 hlen hf5 hf9 hf10 hu_2) (cwV 2 hts gv_h5_0 rfl rfl rfl (by decide +kernel) ⟨Nat.le_of_ble_eq_true rfl, Nat.le_of_ble_eq_true rfl⟩) ⟨fun a U g mk q => by obtain ⟨q0, q1, qP, qK, qD⟩ := q; exact ⟨q0, q1, qP, va_K.moved (u := U) (U := U.calling g mk a) (Vm.Alike.refl U.vm) qK, qD⟩, va_recv hKc hPc (ci := 13) (q0 := 0) rfl rfl, fun U hU hW => ⟨rfl, by rw [hU], by rw [hU]; exact hPc, va_K.moved hW.alike hKc, hDc.weaken (fun _ _ _ _ => trivial)⟩⟩ rfl rfl hl.1 rfl (lv_room (Nat.le_of_ble_eq_true rfl)) dX13_isDeep_41 ⟨Nat.le_of_ble_eq_true rfl, Nat.le_of_ble_eq_true rfl⟩) hS (fun q _ h => hFc q h) hFc ?_
        clear hS
        intro u t H1 locs ht hvm hw hB hz1 hk1 hS
        obtain ⟨z_2, rfl⟩ : ∃ z, z = u := ⟨_, rfl⟩
        obtain ⟨hP1, hK1, hD1⟩ := hB
        rw [ht] at hP1
        have hK1 := va_K.moved hvm.symm hK1
        try dsimp only at hw
        have hPD := va_join (wr := [(qf4, .inl (cf4, 3008, .inl f4))]) (w1 := [(h0, .inr (13, z_2)), (qf5, .inl (cf5, 3002, .inl f5))]) hP hD [0, 2] [1] rfl rfl (by decide) (by decide) hk1 hFc hP1 hD1
        clear hP hD
        obtain ⟨hP, hD⟩ := hPD
        replace hK := (hK.sub (tys' := [(cf4, .int)]) [0] rfl).app hK1
        clear hPc hDc hKc hFc hP1 hK1 hD1 hz1 hk1 ht hvm
        generalize H1 = H at hP hS ⊢
        replace hP : va_P (dC, dI) vwCl [(qf4, .inl (cf4, 3008, .inl f4)), (h0, .inr (13, z_2)), (qf5, .inl (cf5, 3002, .inl f5))] H := hP
        replace hD : va_D A [(qf4, .inl (cf4, 3008, .inl f4)), (h0, .inr (13, z_2)), (qf5, .inl (cf5, 3002, .inl f5))] := hD
        replace hK : va_K (dC, dI) vwCl [(cf4, .int), (cf5, .int)] s := hK
        obtain ⟨hwa_2, hln_2, hre_2, hch_2_10, hch_2_9⟩ := hw
        have hfk_2_4 : z_2[4]? = some (.ref qf4) := (hre_2 4 (by decide) (by decide)).trans (hf4)
        have hfk_2_5 : z_2[5]? = some (.ref qf5) := (hre_2 5 (by decide) (by decide)).trans (hf5)
        have hfk_2_23 : z_2[23]? = some (.int v23) := (hre_2 23 (by decide) (by decide)).trans (hf23)
        have hrq_2 : ∀ j : Nat, j ≠ 10 → j ≠ 9 → z_2[j]? = zs[j]? := fun j g10 g9 => (hre_2 j g10 g9).trans (hrs0 j g10 g9)
        refine lv_iconst (v := 1) hx hb dX13_isDeep_44 (by decide) ?_
        have hr0 := Option.some.inj hsp
        clear hsp
        obtain ⟨hq0, hr1⟩ := Prod.mk.inj hr0
        clear hr0
        obtain ⟨hq1, hr2⟩ := Prod.mk.inj hr1
        clear hr1
        subst hq0
        subst hq1
        subst hr2
        have hP9 := hP.sub (ws' := [(h0, .inr (13, z_2)), (qf4, .inl (cf4, 3008, .inl f4)), (qf5, .inl (cf5, 3002, .inl f5))]) [1, 0, 2] rfl
        have hD9 := hD.sub (ws' := [(h0, .inr (13, z_2)), (qf4, .inl (cf4, 3008, .inl f4)), (qf5, .inl (cf5, 3002, .inl f5))]) [1, 0, 2] (by decide) rfl
        have hK9 := hK.sub (tys' := [(cf4, .int), (cf5, .int)]) [0, 1] rfl
        exact W.zret hx hb hr (by decide) (fun t ht hW => ⟨⟨(1), (z_2), rfl, ⟨⟨rfl, Or.inr rfl⟩, hln_2, hrq_2, hch_2_10, hch_2_9⟩, by rw [ht]; exact hP9, va_K.moved hW.alike hK9, hD9⟩, hS.F ht⟩) hS.2.2 dX13_isDeep_45
    · rw [if_neg c_2] at hsp
      refine lv_iconst (v := 0) hx hb dX13_isDeep_15 (by decide) ?_
      have hr0 := Option.some.inj hsp
      clear hsp
      obtain ⟨hq0, hr1⟩ := Prod.mk.inj hr0
      clear hr0
      obtain ⟨hq1, hr2⟩ := Prod.mk.inj hr1
      clear hr1
      subst hq0
      subst hq1
      subst hr2
      have hP9 := hP.sub (ws' := [(h0, .inr (13, zs)), (qf4, .inl (cf4, 3008, .inl f4)), (qf5, .inl (cf5, 3002, .inl f5))]) [0, 1, 2] rfl
      have hD9 := hD.sub (ws' := [(h0, .inr (13, zs)), (qf4, .inl (cf4, 3008, .inl f4)), (qf5, .inl (cf5, 3002, .inl f5))]) [0, 1, 2] (by decide) rfl
      have hK9 := hK.sub (tys' := [(cf4, .int), (cf5, .int)]) [0, 1] rfl
      exact W.zret hx hb hr (by decide) (fun t ht hW => ⟨⟨(0), (zs), rfl, ⟨⟨rfl, Or.inl rfl⟩, hlen, hrs0, hf10, hf9⟩, by rw [ht]; exact hP9, va_K.moved hW.alike hK9, hD9⟩, hS.F ht⟩) hS.2.2 dX13_isDeep_16
  · rw [if_neg c_1] at hsp
    refine lv_iconst (v := 1) hx hb dX13_isDeep_7 (by decide) ?_
    have hr0 := Option.some.inj hsp
    clear hsp
    obtain ⟨hq0, hr1⟩ := Prod.mk.inj hr0
    clear hr0
    obtain ⟨hq1, hr2⟩ := Prod.mk.inj hr1
    clear hr1
    subst hq0
    subst hq1
    subst hr2
    have hP9 := hP.sub (ws' := [(h0, .inr (13, zs)), (qf4, .inl (cf4, 3008, .inl f4)), (qf5, .inl (cf5, 3002, .inl f5))]) [0, 1, 2] rfl
    have hD9 := hD.sub (ws' := [(h0, .inr (13, zs)), (qf4, .inl (cf4, 3008, .inl f4)), (qf5, .inl (cf5, 3002, .inl f5))]) [0, 1, 2] (by decide) rfl
    have hK9 := hK.sub (tys' := [(cf4, .int), (cf5, .int)]) [0, 1] rfl
    exact W.zret hx hb hr (by decide) (fun t ht hW => ⟨⟨(1), (zs), rfl, ⟨⟨rfl, Or.inr rfl⟩, hlen, hrs0, hf10, hf9⟩, by rw [ht]; exact hP9, va_K.moved hW.alike hK9, hD9⟩, hS.F ht⟩) hS.2.2 dX13_isDeep_8
def sp_tm_upperOf (nf : Nat) (a1 : Int32) (f27 : Nat → Int32) : Option (Int32) := (if a1 = 0 then (some (-1)) else (if a1 = 1 then (some 0) else (if 8 ≤ a1 then (if (a1 - 8) < 0 then none else if 400 ≤ ((a1 - 8) : Int32).toNatClampNeg then none else (some (f27 ((a1 - 8) : Int32).toNatClampNeg))) else (some 1))))
set_option maxHeartbeats 4000000 in
set_option maxRecDepth 100000 in
/-- ClassMillModel.upperOf -/
theorem tm_upperOf (l : Launch) (dC : Nat → ClassId) (dI : Nat → Nat → Nat) (sz : Nat) (h0 : Nat) (zs : (List Value)) (a1 : Int32) (qf27 : Nat) (cf27 : ClassId) (f27 : (Nat → Int32)) (nf : Nat) (r0 : Int32) (hlen : zs.length = 155) (hf27 : zs[27]? = some (.ref qf27)) (hsp : sp_tm_upperOf nf a1 f27 = some r0) : Met l yX13_upperOf (.code yX13_upperOf cX13_upperOf 2 (some .int) :: VS_h5) ({ frames := 0, cells := 0, slots := 0, locals := 0 }) (va_Pc [.ref h0, .int a1] (fun U => U.heap.size = sz ∧ va_P (dC, dI) vwCl [(h0, .inr (13, zs)), (qf27, .inl (cf27, 400, .inl f27))] U.heap ∧ va_K (dC, dI) vwCl [(cf27, .int)] U ∧ va_D (fun _ => True) [(h0, .inr (13, zs)), (qf27, .inl (cf27, 400, .inl f27))])) (va_Qi (fun (r : Int32) (u : (List Value)) => match u with | (zo1) => r0 = r ∧ zo1.length = 155 ∧ (∀ j : Nat, zo1[j]? = zs[j]?)) (fun (u : (List Value)) (t : State) => match u with | (zo1) => va_P (dC, dI) vwCl [(h0, .inr (13, zo1)), (qf27, .inl (cf27, 400, .inl f27))] t.heap ∧ va_K (dC, dI) vwCl [(cf27, .int)] t ∧ va_D (va_A [(h0, .inr (13, zs)), (qf27, .inl (cf27, 400, .inl f27))] sz) [(h0, .inr (13, zo1)), (qf27, .inl (cf27, 400, .inl f27))]) (va_A [(h0, .inr (13, zs)), (qf27, .inl (cf27, 400, .inl f27))] sz)) 0 0 (va_A [(h0, .inr (13, zs)), (qf27, .inl (cf27, 400, .inl f27))] sz) := by
  refine Met.ofW (cc := cX13_upperOf) (maxL := 2) (ret := (some .int)) (by decide) rfl ?_
  intro p e s m args below meth c s₁ B hml hv
  obtain ⟨rfl, hsz, hP, hK, hD0⟩ := hv
  have hx := B.exec
  have hb := B.bytes
  have hr := B.returns
  have hts := atoms_spec (ws := (.code yX13_upperOf cX13_upperOf 2 (some .int) :: VS_h5)) B.pre
  replace hts := fun w (h : w ∈ VS_h5) => hts w (List.mem_cons_of_mem _ h)
  have hown : s.vm.findClass RX13 = some m.cls := findClass_of_methodNamed B.named
  have hlocks := B.notSynchronized
  subst hsz
  have hD := hD0.self (sz := s.heap.size)
  generalize hAe : va_A [(h0, .inr (13, zs)), (qf27, .inl (cf27, 400, .inl f27))] s.heap.size = A at hD  ⊢
  have hA : ∀ q : Nat, s.heap.size ≤ q → A q := fun q h => by rw [← hAe]; exact Or.inr h
  have hP : va_P (dC, dI) vwCl [(h0, .inr (13, zs)), (qf27, .inl (cf27, 400, .inl f27))] s.heap := hP
  have hl := lv_entry ([.ref h0, .int a1]) (n := 2) (Nat.le_of_ble_eq_true rfl)
  rw [lg_entry_eq]
  generalize (lg_sl ([.ref h0, .int a1]) ++ List.replicate (2 - (lg_sl ([.ref h0, .int a1])).length) Slot.unset).toArray = ls at hl ⊢
  have hl : lv_has ls 2 [(0, .ref h0), (1, .int a1)] := hl
  obtain ⟨H, hH⟩ : ∃ H : Heap, s.heap = H := ⟨_, rfl⟩
  rw [hH] at hP ⊢
  have hS : va_S A s.heap H [] := by rw [← hH]; exact va_S.rf
  obtain ⟨locs, hlo⟩ : ∃ locs : List Loc, locs = [] := ⟨_, rfl⟩
  rw [← hlo] at hS ⊢
  have hrs0 : ∀ j : Nat, zs[j]? = zs[j]? := fun _  => rfl
  unfold sp_tm_upperOf at hsp
  refine lv_iload_n hx hb dX13_upperOf_0 rfl (lv_at hl 1 rfl) ?_
  refine lv_if_ne (tgt := 8) hx hb dX13_upperOf_1 (by decide) (fun c_1 => ?_) (fun c_1 => ?_)
  · rw [if_neg c_1] at hsp
    refine lv_iload_n hx hb dX13_upperOf_8 rfl (lv_at hl 1 rfl) ?_
    refine lv_iconst (v := 1) hx hb dX13_upperOf_9 (by decide) ?_
    refine lv_icmp_ne (tgt := 17) hx hb dX13_upperOf_10 (by decide) (fun c_2 => ?_) (fun c_2 => ?_)
    · rw [if_neg c_2] at hsp
      refine lv_iload_n hx hb dX13_upperOf_17 rfl (lv_at hl 1 rfl) ?_
      refine lv_bipush (v := 8) hx hb dX13_upperOf_18 (by decide) ?_
      refine lv_icmp_ge (tgt := 27) hx hb dX13_upperOf_20 (by decide) (fun c_3 => ?_) (fun c_3 => ?_)
      · rw [if_pos c_3] at hsp
        refine lv_aload_n hx hb dX13_upperOf_27 rfl (lv_at hl 0 rfl) ?_
        refine va_get (D := (dC, dI)) (ci := 13) (v := .ref qf27) (C := RX13) (T := TX13) (N := 155) hx hb hts uV_h5_X13 hown hK hP 0 rfl rfl 27 (by decide) (hts (.fieldLink RX13 68 "ClassMillModel" "classUpper" "[I") mw_h5_28) (fun _ h9 => h9) hf27 dX13_upperOf_28 ?_
        refine lv_iload_n hx hb dX13_upperOf_31 rfl (lv_at hl 1 rfl) ?_
        refine lv_bipush (v := 8) hx hb dX13_upperOf_32 (by decide) ?_
        refine lv_isub hx hb dX13_upperOf_34 ?_
        obtain ⟨hi_4, hsp⟩ := ox_in hsp
        refine va_iald hx hb hK hP 1 0 rfl rfl (i := (a1 - 8)) hi_4 dX13_upperOf_35 ?_
        have hr0 := Option.some.inj hsp
        clear hsp
        subst hr0
        have hP9 := hP.sub (ws' := [(h0, .inr (13, zs)), (qf27, .inl (cf27, 400, .inl f27))]) [0, 1] rfl
        have hD9 := hD.sub (ws' := [(h0, .inr (13, zs)), (qf27, .inl (cf27, 400, .inl f27))]) [0, 1] (by decide) rfl
        have hK9 := hK.sub (tys' := [(cf27, .int)]) [0] rfl
        exact W.iret hx hb hr (fun t ht hW => ⟨⟨((f27 ((a1 - 8) : Int32).toNatClampNeg)), (zs), rfl, ⟨rfl, hlen, hrs0⟩, by rw [ht]; exact hP9, va_K.moved hW.alike hK9, hD9⟩, hS.F ht⟩) hS.2.2 dX13_upperOf_36
      · rw [if_neg c_3] at hsp
        refine lv_iconst (v := 1) hx hb dX13_upperOf_23 (by decide) ?_
        refine lv_goto (tgt := 36) hx hb dX13_upperOf_24 (by decide) ?_
        have hr0 := Option.some.inj hsp
        clear hsp
        subst hr0
        have hP9 := hP.sub (ws' := [(h0, .inr (13, zs)), (qf27, .inl (cf27, 400, .inl f27))]) [0, 1] rfl
        have hD9 := hD.sub (ws' := [(h0, .inr (13, zs)), (qf27, .inl (cf27, 400, .inl f27))]) [0, 1] (by decide) rfl
        have hK9 := hK.sub (tys' := [(cf27, .int)]) [0] rfl
        exact W.iret hx hb hr (fun t ht hW => ⟨⟨(1), (zs), rfl, ⟨rfl, hlen, hrs0⟩, by rw [ht]; exact hP9, va_K.moved hW.alike hK9, hD9⟩, hS.F ht⟩) hS.2.2 dX13_upperOf_36
    · rw [if_pos c_2] at hsp
      refine lv_iconst (v := 0) hx hb dX13_upperOf_13 (by decide) ?_
      refine lv_goto (tgt := 36) hx hb dX13_upperOf_14 (by decide) ?_
      have hr0 := Option.some.inj hsp
      clear hsp
      subst hr0
      have hP9 := hP.sub (ws' := [(h0, .inr (13, zs)), (qf27, .inl (cf27, 400, .inl f27))]) [0, 1] rfl
      have hD9 := hD.sub (ws' := [(h0, .inr (13, zs)), (qf27, .inl (cf27, 400, .inl f27))]) [0, 1] (by decide) rfl
      have hK9 := hK.sub (tys' := [(cf27, .int)]) [0] rfl
      exact W.iret hx hb hr (fun t ht hW => ⟨⟨(0), (zs), rfl, ⟨rfl, hlen, hrs0⟩, by rw [ht]; exact hP9, va_K.moved hW.alike hK9, hD9⟩, hS.F ht⟩) hS.2.2 dX13_upperOf_36
  · rw [if_pos c_1] at hsp
    refine lv_iconst (v := (-1)) hx hb dX13_upperOf_4 (by decide) ?_
    refine lv_goto (tgt := 36) hx hb dX13_upperOf_5 (by decide) ?_
    have hr0 := Option.some.inj hsp
    clear hsp
    subst hr0
    have hP9 := hP.sub (ws' := [(h0, .inr (13, zs)), (qf27, .inl (cf27, 400, .inl f27))]) [0, 1] rfl
    have hD9 := hD.sub (ws' := [(h0, .inr (13, zs)), (qf27, .inl (cf27, 400, .inl f27))]) [0, 1] (by decide) rfl
    have hK9 := hK.sub (tys' := [(cf27, .int)]) [0] rfl
    exact W.iret hx hb hr (fun t ht hW => ⟨⟨((-1)), (zs), rfl, ⟨rfl, hlen, hrs0⟩, by rw [ht]; exact hP9, va_K.moved hW.alike hK9, hD9⟩, hS.F ht⟩) hS.2.2 dX13_upperOf_36
def sp_tm_isArray (nf : Nat) (a1 : Int32) : Option (Int32) := (if a1 = 4 then (some 1) else (if a1 < 8 then (some 0) else (if (a1 - a1 / 2 * 2) = 1 then (some 1) else (some 0))))
set_option maxHeartbeats 4000000 in
set_option maxRecDepth 100000 in
/-- ClassMillModel.isArray -/
theorem tm_isArray (l : Launch) (dC : Nat → ClassId) (dI : Nat → Nat → Nat) (sz : Nat) (a1 : Int32) (nf : Nat) (r0 : Int32) (hsp : sp_tm_isArray nf a1 = some r0) : Met l yX13_isArray (.code yX13_isArray cX13_isArray 1 (some .boolean) :: VS_h5) ({ frames := 0, cells := 0, slots := 0, locals := 0 }) (va_Pc [.int a1] (fun U => U.heap.size = sz ∧ va_P (dC, dI) vwCl [] U.heap ∧ va_K (dC, dI) vwCl [] U ∧ va_D (fun _ => True) [])) (va_Qi (fun (r : Int32) (u : Unit) => match u with | () => r0 = r ∧ (r0 = 0 ∨ r0 = 1)) (fun (u : Unit) (t : State) => match u with | () => va_P (dC, dI) vwCl [] t.heap ∧ va_K (dC, dI) vwCl [] t ∧ va_D (va_A [] sz) []) (va_A [] sz)) 0 0 (va_A [] sz) := by
  refine Met.ofW (cc := cX13_isArray) (maxL := 1) (ret := (some .boolean)) (by decide) rfl ?_
  intro p e s m args below meth c s₁ B hml hv
  obtain ⟨rfl, hsz, hP, hK, hD0⟩ := hv
  have hx := B.exec
  have hb := B.bytes
  have hr := B.returns
  have hts := atoms_spec (ws := (.code yX13_isArray cX13_isArray 1 (some .boolean) :: VS_h5)) B.pre
  replace hts := fun w (h : w ∈ VS_h5) => hts w (List.mem_cons_of_mem _ h)
  have hown : s.vm.findClass RX13 = some m.cls := findClass_of_methodNamed B.named
  have hlocks := B.notSynchronized
  subst hsz
  have hD := hD0.self (sz := s.heap.size)
  generalize hAe : va_A [] s.heap.size = A at hD  ⊢
  have hA : ∀ q : Nat, s.heap.size ≤ q → A q := fun q h => by rw [← hAe]; exact Or.inr h
  have hP : va_P (dC, dI) vwCl [] s.heap := hP
  have hl := lv_entry ([.int a1]) (n := 1) (Nat.le_of_ble_eq_true rfl)
  rw [lg_entry_eq]
  generalize (lg_sl ([.int a1]) ++ List.replicate (1 - (lg_sl ([.int a1])).length) Slot.unset).toArray = ls at hl ⊢
  have hl : lv_has ls 1 [(0, .int a1)] := hl
  obtain ⟨H, hH⟩ : ∃ H : Heap, s.heap = H := ⟨_, rfl⟩
  rw [hH] at hP ⊢
  have hS : va_S A s.heap H [] := by rw [← hH]; exact va_S.rf
  obtain ⟨locs, hlo⟩ : ∃ locs : List Loc, locs = [] := ⟨_, rfl⟩
  rw [← hlo] at hS ⊢
  unfold sp_tm_isArray at hsp
  refine lv_iload_n hx hb dX13_isArray_0 rfl (lv_at hl 0 rfl) ?_
  refine lv_iconst (v := 4) hx hb dX13_isArray_1 (by decide) ?_
  refine lv_icmp_eq (tgt := 18) hx hb dX13_isArray_2 (by decide) (fun c_1 => ?_) (fun c_1 => ?_)
  · rw [if_pos c_1] at hsp
    refine lv_iconst (v := 1) hx hb dX13_isArray_18 (by decide) ?_
    refine lv_goto (tgt := 23) hx hb dX13_isArray_19 (by decide) ?_
    have hr0 := Option.some.inj hsp
    clear hsp
    subst hr0
    have hP9 := hP.sub (ws' := []) [] rfl
    have hD9 := hD.sub (ws' := []) [] (by decide) rfl
    have hK9 := hK.sub (tys' := []) [] rfl
    exact W.zret hx hb hr (by decide) (fun t ht hW => ⟨⟨(1), (), rfl, ⟨rfl, Or.inr rfl⟩, by rw [ht]; exact hP9, va_K.moved hW.alike hK9, hD9⟩, hS.F ht⟩) hS.2.2 dX13_isArray_23
  · rw [if_neg c_1] at hsp
    refine lv_iload_n hx hb dX13_isArray_5 rfl (lv_at hl 0 rfl) ?_
    refine lv_bipush (v := 8) hx hb dX13_isArray_6 (by decide) ?_
    refine lv_icmp_lt (tgt := 22) hx hb dX13_isArray_8 (by decide) (fun c_2 => ?_) (fun c_2 => ?_)
    · rw [if_pos c_2] at hsp
      refine lv_iconst (v := 0) hx hb dX13_isArray_22 (by decide) ?_
      have hr0 := Option.some.inj hsp
      clear hsp
      subst hr0
      have hP9 := hP.sub (ws' := []) [] rfl
      have hD9 := hD.sub (ws' := []) [] (by decide) rfl
      have hK9 := hK.sub (tys' := []) [] rfl
      exact W.zret hx hb hr (by decide) (fun t ht hW => ⟨⟨(0), (), rfl, ⟨rfl, Or.inl rfl⟩, by rw [ht]; exact hP9, va_K.moved hW.alike hK9, hD9⟩, hS.F ht⟩) hS.2.2 dX13_isArray_23
    · rw [if_neg c_2] at hsp
      refine lv_iload_n hx hb dX13_isArray_11 rfl (lv_at hl 0 rfl) ?_
      refine lv_iconst (v := 2) hx hb dX13_isArray_12 (by decide) ?_
      refine lv_irem hx hb dX13_isArray_13 (by decide) ?_
      refine lv_iconst (v := 1) hx hb dX13_isArray_14 (by decide) ?_
      refine lv_icmp_ne (tgt := 22) hx hb dX13_isArray_15 (by decide) (fun c_3 => ?_) (fun c_3 => ?_)
      · rw [if_neg c_3] at hsp
        refine lv_iconst (v := 0) hx hb dX13_isArray_22 (by decide) ?_
        have hr0 := Option.some.inj hsp
        clear hsp
        subst hr0
        have hP9 := hP.sub (ws' := []) [] rfl
        have hD9 := hD.sub (ws' := []) [] (by decide) rfl
        have hK9 := hK.sub (tys' := []) [] rfl
        exact W.zret hx hb hr (by decide) (fun t ht hW => ⟨⟨(0), (), rfl, ⟨rfl, Or.inl rfl⟩, by rw [ht]; exact hP9, va_K.moved hW.alike hK9, hD9⟩, hS.F ht⟩) hS.2.2 dX13_isArray_23
      · rw [if_pos c_3] at hsp
        refine lv_iconst (v := 1) hx hb dX13_isArray_18 (by decide) ?_
        refine lv_goto (tgt := 23) hx hb dX13_isArray_19 (by decide) ?_
        have hr0 := Option.some.inj hsp
        clear hsp
        subst hr0
        have hP9 := hP.sub (ws' := []) [] rfl
        have hD9 := hD.sub (ws' := []) [] (by decide) rfl
        have hK9 := hK.sub (tys' := []) [] rfl
        exact W.zret hx hb hr (by decide) (fun t ht hW => ⟨⟨(1), (), rfl, ⟨rfl, Or.inr rfl⟩, by rw [ht]; exact hP9, va_K.moved hW.alike hK9, hD9⟩, hS.F ht⟩) hS.2.2 dX13_isArray_23
def sp_tm_isThing (nf : Nat) (a1 : Int32) : Option (Int32) := (if a1 = 2 then (some 1) else (if a1 = 4 then (some 1) else (if a1 < 8 then (some 0) else (some 1))))
set_option maxHeartbeats 4000000 in
set_option maxRecDepth 100000 in
/-- ClassMillModel.isThing -/
theorem tm_isThing (l : Launch) (dC : Nat → ClassId) (dI : Nat → Nat → Nat) (sz : Nat) (a1 : Int32) (nf : Nat) (r0 : Int32) (hsp : sp_tm_isThing nf a1 = some r0) : Met l yX13_isThing (.code yX13_isThing cX13_isThing 1 (some .boolean) :: VS_h5) ({ frames := 0, cells := 0, slots := 0, locals := 0 }) (va_Pc [.int a1] (fun U => U.heap.size = sz ∧ va_P (dC, dI) vwCl [] U.heap ∧ va_K (dC, dI) vwCl [] U ∧ va_D (fun _ => True) [])) (va_Qi (fun (r : Int32) (u : Unit) => match u with | () => r0 = r ∧ (r0 = 0 ∨ r0 = 1)) (fun (u : Unit) (t : State) => match u with | () => va_P (dC, dI) vwCl [] t.heap ∧ va_K (dC, dI) vwCl [] t ∧ va_D (va_A [] sz) []) (va_A [] sz)) 0 0 (va_A [] sz) := by
  refine Met.ofW (cc := cX13_isThing) (maxL := 1) (ret := (some .boolean)) (by decide) rfl ?_
  intro p e s m args below meth c s₁ B hml hv
  obtain ⟨rfl, hsz, hP, hK, hD0⟩ := hv
  have hx := B.exec
  have hb := B.bytes
  have hr := B.returns
  have hts := atoms_spec (ws := (.code yX13_isThing cX13_isThing 1 (some .boolean) :: VS_h5)) B.pre
  replace hts := fun w (h : w ∈ VS_h5) => hts w (List.mem_cons_of_mem _ h)
  have hown : s.vm.findClass RX13 = some m.cls := findClass_of_methodNamed B.named
  have hlocks := B.notSynchronized
  subst hsz
  have hD := hD0.self (sz := s.heap.size)
  generalize hAe : va_A [] s.heap.size = A at hD  ⊢
  have hA : ∀ q : Nat, s.heap.size ≤ q → A q := fun q h => by rw [← hAe]; exact Or.inr h
  have hP : va_P (dC, dI) vwCl [] s.heap := hP
  have hl := lv_entry ([.int a1]) (n := 1) (Nat.le_of_ble_eq_true rfl)
  rw [lg_entry_eq]
  generalize (lg_sl ([.int a1]) ++ List.replicate (1 - (lg_sl ([.int a1])).length) Slot.unset).toArray = ls at hl ⊢
  have hl : lv_has ls 1 [(0, .int a1)] := hl
  obtain ⟨H, hH⟩ : ∃ H : Heap, s.heap = H := ⟨_, rfl⟩
  rw [hH] at hP ⊢
  have hS : va_S A s.heap H [] := by rw [← hH]; exact va_S.rf
  obtain ⟨locs, hlo⟩ : ∃ locs : List Loc, locs = [] := ⟨_, rfl⟩
  rw [← hlo] at hS ⊢
  unfold sp_tm_isThing at hsp
  refine lv_iload_n hx hb dX13_isThing_0 rfl (lv_at hl 0 rfl) ?_
  refine lv_iconst (v := 2) hx hb dX13_isThing_1 (by decide) ?_
  refine lv_icmp_eq (tgt := 16) hx hb dX13_isThing_2 (by decide) (fun c_1 => ?_) (fun c_1 => ?_)
  · rw [if_pos c_1] at hsp
    refine lv_iconst (v := 1) hx hb dX13_isThing_16 (by decide) ?_
    refine lv_goto (tgt := 21) hx hb dX13_isThing_17 (by decide) ?_
    have hr0 := Option.some.inj hsp
    clear hsp
    subst hr0
    have hP9 := hP.sub (ws' := []) [] rfl
    have hD9 := hD.sub (ws' := []) [] (by decide) rfl
    have hK9 := hK.sub (tys' := []) [] rfl
    exact W.zret hx hb hr (by decide) (fun t ht hW => ⟨⟨(1), (), rfl, ⟨rfl, Or.inr rfl⟩, by rw [ht]; exact hP9, va_K.moved hW.alike hK9, hD9⟩, hS.F ht⟩) hS.2.2 dX13_isThing_21
  · rw [if_neg c_1] at hsp
    refine lv_iload_n hx hb dX13_isThing_5 rfl (lv_at hl 0 rfl) ?_
    refine lv_iconst (v := 4) hx hb dX13_isThing_6 (by decide) ?_
    refine lv_icmp_eq (tgt := 16) hx hb dX13_isThing_7 (by decide) (fun c_2 => ?_) (fun c_2 => ?_)
    · rw [if_pos c_2] at hsp
      refine lv_iconst (v := 1) hx hb dX13_isThing_16 (by decide) ?_
      refine lv_goto (tgt := 21) hx hb dX13_isThing_17 (by decide) ?_
      have hr0 := Option.some.inj hsp
      clear hsp
      subst hr0
      have hP9 := hP.sub (ws' := []) [] rfl
      have hD9 := hD.sub (ws' := []) [] (by decide) rfl
      have hK9 := hK.sub (tys' := []) [] rfl
      exact W.zret hx hb hr (by decide) (fun t ht hW => ⟨⟨(1), (), rfl, ⟨rfl, Or.inr rfl⟩, by rw [ht]; exact hP9, va_K.moved hW.alike hK9, hD9⟩, hS.F ht⟩) hS.2.2 dX13_isThing_21
    · rw [if_neg c_2] at hsp
      refine lv_iload_n hx hb dX13_isThing_10 rfl (lv_at hl 0 rfl) ?_
      refine lv_bipush (v := 8) hx hb dX13_isThing_11 (by decide) ?_
      refine lv_icmp_lt (tgt := 20) hx hb dX13_isThing_13 (by decide) (fun c_3 => ?_) (fun c_3 => ?_)
      · rw [if_pos c_3] at hsp
        refine lv_iconst (v := 0) hx hb dX13_isThing_20 (by decide) ?_
        have hr0 := Option.some.inj hsp
        clear hsp
        subst hr0
        have hP9 := hP.sub (ws' := []) [] rfl
        have hD9 := hD.sub (ws' := []) [] (by decide) rfl
        have hK9 := hK.sub (tys' := []) [] rfl
        exact W.zret hx hb hr (by decide) (fun t ht hW => ⟨⟨(0), (), rfl, ⟨rfl, Or.inl rfl⟩, by rw [ht]; exact hP9, va_K.moved hW.alike hK9, hD9⟩, hS.F ht⟩) hS.2.2 dX13_isThing_21
      · rw [if_neg c_3] at hsp
        refine lv_iconst (v := 1) hx hb dX13_isThing_16 (by decide) ?_
        refine lv_goto (tgt := 21) hx hb dX13_isThing_17 (by decide) ?_
        have hr0 := Option.some.inj hsp
        clear hsp
        subst hr0
        have hP9 := hP.sub (ws' := []) [] rfl
        have hD9 := hD.sub (ws' := []) [] (by decide) rfl
        have hK9 := hK.sub (tys' := []) [] rfl
        exact W.zret hx hb hr (by decide) (fun t ht hW => ⟨⟨(1), (), rfl, ⟨rfl, Or.inr rfl⟩, by rw [ht]; exact hP9, va_K.moved hW.alike hK9, hD9⟩, hS.F ht⟩) hS.2.2 dX13_isThing_21
def sp_tm_local (nf : Nat) (a1 : Int32) (v53 : Int32) : Option (Int32) := (if v53 = 0 then (some (a1 + 1)) else (some a1))
set_option maxHeartbeats 4000000 in
set_option maxRecDepth 100000 in
/-- ClassMillModel.local -/
theorem tm_local (l : Launch) (dC : Nat → ClassId) (dI : Nat → Nat → Nat) (sz : Nat) (h0 : Nat) (zs : (List Value)) (a1 : Int32) (v53 : Int32) (nf : Nat) (r0 : Int32) (hlen : zs.length = 155) (hf53 : zs[53]? = some (.int v53)) (hsp : sp_tm_local nf a1 v53 = some r0) : Met l yX13_local (.code yX13_local cX13_local 2 (some .int) :: VS_h5) ({ frames := 0, cells := 0, slots := 0, locals := 0 }) (va_Pc [.ref h0, .int a1] (fun U => U.heap.size = sz ∧ va_P (dC, dI) vwCl [(h0, .inr (13, zs))] U.heap ∧ va_K (dC, dI) vwCl [] U ∧ va_D (fun _ => True) [(h0, .inr (13, zs))])) (va_Qi (fun (r : Int32) (u : (List Value)) => match u with | (zo1) => r0 = r ∧ zo1.length = 155 ∧ (∀ j : Nat, zo1[j]? = zs[j]?)) (fun (u : (List Value)) (t : State) => match u with | (zo1) => va_P (dC, dI) vwCl [(h0, .inr (13, zo1))] t.heap ∧ va_K (dC, dI) vwCl [] t ∧ va_D (va_A [(h0, .inr (13, zs))] sz) [(h0, .inr (13, zo1))]) (va_A [(h0, .inr (13, zs))] sz)) 0 0 (va_A [(h0, .inr (13, zs))] sz) := by
  refine Met.ofW (cc := cX13_local) (maxL := 2) (ret := (some .int)) (by decide) rfl ?_
  intro p e s m args below meth c s₁ B hml hv
  obtain ⟨rfl, hsz, hP, hK, hD0⟩ := hv
  have hx := B.exec
  have hb := B.bytes
  have hr := B.returns
  have hts := atoms_spec (ws := (.code yX13_local cX13_local 2 (some .int) :: VS_h5)) B.pre
  replace hts := fun w (h : w ∈ VS_h5) => hts w (List.mem_cons_of_mem _ h)
  have hown : s.vm.findClass RX13 = some m.cls := findClass_of_methodNamed B.named
  have hlocks := B.notSynchronized
  subst hsz
  have hD := hD0.self (sz := s.heap.size)
  generalize hAe : va_A [(h0, .inr (13, zs))] s.heap.size = A at hD  ⊢
  have hA : ∀ q : Nat, s.heap.size ≤ q → A q := fun q h => by rw [← hAe]; exact Or.inr h
  have hP : va_P (dC, dI) vwCl [(h0, .inr (13, zs))] s.heap := hP
  have hl := lv_entry ([.ref h0, .int a1]) (n := 2) (Nat.le_of_ble_eq_true rfl)
  rw [lg_entry_eq]
  generalize (lg_sl ([.ref h0, .int a1]) ++ List.replicate (2 - (lg_sl ([.ref h0, .int a1])).length) Slot.unset).toArray = ls at hl ⊢
  have hl : lv_has ls 2 [(0, .ref h0), (1, .int a1)] := hl
  obtain ⟨H, hH⟩ : ∃ H : Heap, s.heap = H := ⟨_, rfl⟩
  rw [hH] at hP ⊢
  have hS : va_S A s.heap H [] := by rw [← hH]; exact va_S.rf
  obtain ⟨locs, hlo⟩ : ∃ locs : List Loc, locs = [] := ⟨_, rfl⟩
  rw [← hlo] at hS ⊢
  have hrs0 : ∀ j : Nat, zs[j]? = zs[j]? := fun _  => rfl
  unfold sp_tm_local at hsp
  refine lv_aload_n hx hb dX13_local_0 rfl (lv_at hl 0 rfl) ?_
  refine va_get (D := (dC, dI)) (ci := 13) (v := .int v53) (C := RX13) (T := TX13) (N := 155) hx hb hts uV_h5_X13 hown hK hP 0 rfl rfl 53 (by decide) (hts (.fieldLink RX13 510 "ClassMillModel" "still" "Z") mw_h5_29) (fun _ h9 => h9) hf53 dX13_local_1 ?_
  refine lv_if_eq (tgt := 11) hx hb dX13_local_4 (by decide) (fun c_1 => ?_) (fun c_1 => ?_)
  · rw [if_pos c_1] at hsp
    refine lv_iload_n hx hb dX13_local_11 rfl (lv_at hl 1 rfl) ?_
    refine lv_iconst (v := 1) hx hb dX13_local_12 (by decide) ?_
    refine lv_iadd hx hb dX13_local_13 ?_
    have hr0 := Option.some.inj hsp
    clear hsp
    subst hr0
    have hP9 := hP.sub (ws' := [(h0, .inr (13, zs))]) [0] rfl
    have hD9 := hD.sub (ws' := [(h0, .inr (13, zs))]) [0] (by decide) rfl
    have hK9 := hK.sub (tys' := []) [] rfl
    exact W.iret hx hb hr (fun t ht hW => ⟨⟨((a1 + 1)), (zs), rfl, ⟨rfl, hlen, hrs0⟩, by rw [ht]; exact hP9, va_K.moved hW.alike hK9, hD9⟩, hS.F ht⟩) hS.2.2 dX13_local_14
  · rw [if_neg c_1] at hsp
    refine lv_iload_n hx hb dX13_local_7 rfl (lv_at hl 1 rfl) ?_
    refine lv_goto (tgt := 14) hx hb dX13_local_8 (by decide) ?_
    have hr0 := Option.some.inj hsp
    clear hsp
    subst hr0
    have hP9 := hP.sub (ws' := [(h0, .inr (13, zs))]) [0] rfl
    have hD9 := hD.sub (ws' := [(h0, .inr (13, zs))]) [0] (by decide) rfl
    have hK9 := hK.sub (tys' := []) [] rfl
    exact W.iret hx hb hr (fun t ht hW => ⟨⟨(a1), (zs), rfl, ⟨rfl, hlen, hrs0⟩, by rw [ht]; exact hP9, va_K.moved hW.alike hK9, hD9⟩, hS.F ht⟩) hS.2.2 dX13_local_14
def sp_tm_come (nf : Nat) (a1 : Int32) (a2 : Int32) (v50 : Int32) (f48 : Nat → Int32) (f49 : Nat → Int32) : Option ((Nat → Int32) × (Nat → Int32) × Int32) := (if v50 < 0 then none else if 3000 ≤ (v50 : Int32).toNatClampNeg then none else (if v50 < 0 then none else if 3000 ≤ (v50 : Int32).toNatClampNeg then none else (some ((upd f48 (v50 : Int32).toNatClampNeg a1), (upd f49 (v50 : Int32).toNatClampNeg a2), (v50 + 1)))))
set_option maxHeartbeats 4000000 in
set_option maxRecDepth 100000 in
/-- ClassMillModel.come -/
theorem tm_come (l : Launch) (dC : Nat → ClassId) (dI : Nat → Nat → Nat) (sz : Nat) (h0 : Nat) (zs : (List Value)) (a1 : Int32) (a2 : Int32) (qf48 : Nat) (qf49 : Nat) (v50 : Int32) (cf48 : ClassId) (f48 : (Nat → Int32)) (cf49 : ClassId) (f49 : (Nat → Int32)) (nf : Nat) (o48 : (Nat → Int32)) (o49 : (Nat → Int32)) (w50 : Int32) (hlen : zs.length = 155) (hf48 : zs[48]? = some (.ref qf48)) (hf49 : zs[49]? = some (.ref qf49)) (hf50 : zs[50]? = some (.int v50)) (hsp : sp_tm_come nf a1 a2 v50 f48 f49 = some (o48, o49, w50)) : Met l yX13_come (.code yX13_come cX13_come 3 none :: VS_h5) ({ frames := 0, cells := 0, slots := 0, locals := 0 }) (va_Pc [.ref h0, .int a1, .int a2] (fun U => U.heap.size = sz ∧ va_P (dC, dI) vwCl [(h0, .inr (13, zs)), (qf48, .inl (cf48, 3000, .inl f48)), (qf49, .inl (cf49, 3000, .inl f49))] U.heap ∧ va_K (dC, dI) vwCl [(cf48, .int), (cf49, .int)] U ∧ va_D (fun _ => True) [(h0, .inr (13, zs)), (qf48, .inl (cf48, 3000, .inl f48)), (qf49, .inl (cf49, 3000, .inl f49))])) (va_Qv (fun (u : (List Value)) => match u with | (zo1) => True ∧ zo1.length = 155 ∧ (∀ j : Nat, j ≠ 50 → zo1[j]? = zs[j]?) ∧ zo1[50]? = some (.int w50)) (fun (u : (List Value)) (t : State) => match u with | (zo1) => va_P (dC, dI) vwCl [(h0, .inr (13, zo1)), (qf48, .inl (cf48, 3000, .inl o48)), (qf49, .inl (cf49, 3000, .inl o49))] t.heap ∧ va_K (dC, dI) vwCl [(cf48, .int), (cf49, .int)] t ∧ va_D (va_A [(h0, .inr (13, zs)), (qf48, .inl (cf48, 3000, .inl f48)), (qf49, .inl (cf49, 3000, .inl f49))] sz) [(h0, .inr (13, zo1)), (qf48, .inl (cf48, 3000, .inl o48)), (qf49, .inl (cf49, 3000, .inl o49))]) (va_A [(h0, .inr (13, zs)), (qf48, .inl (cf48, 3000, .inl f48)), (qf49, .inl (cf49, 3000, .inl f49))] sz)) 0 0 (va_A [(h0, .inr (13, zs)), (qf48, .inl (cf48, 3000, .inl f48)), (qf49, .inl (cf49, 3000, .inl f49))] sz) := by
  refine Met.ofW (cc := cX13_come) (maxL := 3) (ret := none) (by decide) rfl ?_
  intro p e s m args below meth c s₁ B hml hv
  obtain ⟨rfl, hsz, hP, hK, hD0⟩ := hv
  have hx := B.exec
  have hb := B.bytes
  have hr := B.returns
  have hts := atoms_spec (ws := (.code yX13_come cX13_come 3 none :: VS_h5)) B.pre
  replace hts := fun w (h : w ∈ VS_h5) => hts w (List.mem_cons_of_mem _ h)
  have hown : s.vm.findClass RX13 = some m.cls := findClass_of_methodNamed B.named
  have hlocks := B.notSynchronized
  subst hsz
  have hD := hD0.self (sz := s.heap.size)
  generalize hAe : va_A [(h0, .inr (13, zs)), (qf48, .inl (cf48, 3000, .inl f48)), (qf49, .inl (cf49, 3000, .inl f49))] s.heap.size = A at hD  ⊢
  have hA : ∀ q : Nat, s.heap.size ≤ q → A q := fun q h => by rw [← hAe]; exact Or.inr h
  have hP : va_P (dC, dI) vwCl [(h0, .inr (13, zs)), (qf48, .inl (cf48, 3000, .inl f48)), (qf49, .inl (cf49, 3000, .inl f49))] s.heap := hP
  have hl := lv_entry ([.ref h0, .int a1, .int a2]) (n := 3) (Nat.le_of_ble_eq_true rfl)
  rw [lg_entry_eq]
  generalize (lg_sl ([.ref h0, .int a1, .int a2]) ++ List.replicate (3 - (lg_sl ([.ref h0, .int a1, .int a2])).length) Slot.unset).toArray = ls at hl ⊢
  have hl : lv_has ls 3 [(0, .ref h0), (1, .int a1), (2, .int a2)] := hl
  obtain ⟨H, hH⟩ : ∃ H : Heap, s.heap = H := ⟨_, rfl⟩
  rw [hH] at hP ⊢
  have hS : va_S A s.heap H [] := by rw [← hH]; exact va_S.rf
  obtain ⟨locs, hlo⟩ : ∃ locs : List Loc, locs = [] := ⟨_, rfl⟩
  rw [← hlo] at hS ⊢
  have hrs0 : ∀ j : Nat, j ≠ 50 → zs[j]? = zs[j]? := fun _ _  => rfl
  unfold sp_tm_come at hsp
  refine lv_aload_n hx hb dX13_come_0 rfl (lv_at hl 0 rfl) ?_
  refine va_get (D := (dC, dI)) (ci := 13) (v := .ref qf48) (C := RX13) (T := TX13) (N := 155) hx hb hts uV_h5_X13 hown hK hP 0 rfl rfl 48 (by decide) (hts (.fieldLink RX13 116 "ClassMillModel" "sightName" "[I") mw_h5_30) (fun _ h9 => h9) hf48 dX13_come_1 ?_
  refine lv_aload_n hx hb dX13_come_4 rfl (lv_at hl 0 rfl) ?_
  refine va_get (D := (dC, dI)) (ci := 13) (v := .int v50) (C := RX13) (T := TX13) (N := 155) hx hb hts uV_h5_X13 hown hK hP 0 rfl rfl 50 (by decide) (hts (.fieldLink RX13 513 "ClassMillModel" "sight" "I") mw_h5_31) (fun _ h9 => h9) hf50 dX13_come_5 ?_
  refine lv_iload_n hx hb dX13_come_8 rfl (lv_at hl 1 rfl) ?_
  obtain ⟨hi_1, hsp⟩ := ox_in hsp
  refine va_iast hx hb hK hP hD hS 1 0 rfl rfl (i := v50) (x := a1) hi_1 dX13_come_9 ?_
  clear hP hD hS
  intro H locs hP hD hS
  replace hP : va_P (dC, dI) vwCl [(h0, .inr (13, zs)), (qf48, .inl (cf48, 3000, .inl (upd f48 (v50 : Int32).toNatClampNeg a1))), (qf49, .inl (cf49, 3000, .inl f49))] H := hP
  replace hD : va_D A [(h0, .inr (13, zs)), (qf48, .inl (cf48, 3000, .inl (upd f48 (v50 : Int32).toNatClampNeg a1))), (qf49, .inl (cf49, 3000, .inl f49))] := hD
  refine lv_aload_n hx hb dX13_come_10 rfl (lv_at hl 0 rfl) ?_
  refine va_get (D := (dC, dI)) (ci := 13) (v := .ref qf49) (C := RX13) (T := TX13) (N := 155) hx hb hts uV_h5_X13 hown hK hP 0 rfl rfl 49 (by decide) (hts (.fieldLink RX13 119 "ClassMillModel" "sightType" "[I") mw_h5_32) (fun _ h9 => h9) hf49 dX13_come_11 ?_
  refine lv_aload_n hx hb dX13_come_14 rfl (lv_at hl 0 rfl) ?_
  refine va_get (D := (dC, dI)) (ci := 13) (v := .int v50) (C := RX13) (T := TX13) (N := 155) hx hb hts uV_h5_X13 hown hK hP 0 rfl rfl 50 (by decide) (hts (.fieldLink RX13 513 "ClassMillModel" "sight" "I") mw_h5_31) (fun _ h9 => h9) hf50 dX13_come_15 ?_
  refine lv_iload_n hx hb dX13_come_18 rfl (lv_at hl 2 rfl) ?_
  obtain ⟨hi_2, hsp⟩ := ox_in hsp
  refine va_iast hx hb hK hP hD hS 2 1 rfl rfl (i := v50) (x := a2) hi_2 dX13_come_19 ?_
  clear hP hD hS
  intro H locs hP hD hS
  replace hP : va_P (dC, dI) vwCl [(h0, .inr (13, zs)), (qf48, .inl (cf48, 3000, .inl (upd f48 (v50 : Int32).toNatClampNeg a1))), (qf49, .inl (cf49, 3000, .inl (upd f49 (v50 : Int32).toNatClampNeg a2)))] H := hP
  replace hD : va_D A [(h0, .inr (13, zs)), (qf48, .inl (cf48, 3000, .inl (upd f48 (v50 : Int32).toNatClampNeg a1))), (qf49, .inl (cf49, 3000, .inl (upd f49 (v50 : Int32).toNatClampNeg a2)))] := hD
  refine lv_aload_n hx hb dX13_come_20 rfl (lv_at hl 0 rfl) ?_
  refine lv_dup hx hb dX13_come_21 rfl ?_
  refine va_get (D := (dC, dI)) (ci := 13) (v := .int v50) (C := RX13) (T := TX13) (N := 155) hx hb hts uV_h5_X13 hown hK hP 0 rfl rfl 50 (by decide) (hts (.fieldLink RX13 513 "ClassMillModel" "sight" "I") mw_h5_31) (fun _ h9 => h9) hf50 dX13_come_22 ?_
  refine lv_iconst (v := 1) hx hb dX13_come_25 (by decide) ?_
  refine lv_iadd hx hb dX13_come_26 ?_
  refine va_put (D := (dC, dI)) (ci := 13) (v := .int (v50 + 1)) (ty := .int) (C := RX13) (T := TX13) (N := 155) hx hb hts uV_h5_X13 tyX13 tyX13_ok nmX13 hown hK hP hD hS 0 rfl rfl 50 (by decide) (hts (.fieldLink RX13 513 "ClassMillModel" "sight" "I") mw_h5_31) (fun _ h9 => h9) rfl (by decide +kernel) rfl rfl (by rw [hlen]; decide) dX13_come_27 ?_
  clear hP hD hS
  intro H locs hP hD hS
  obtain ⟨fs_3, efs_3⟩ : ∃ zf : List Value, zf = zs.set 50 (.int (v50 + 1)) := ⟨_, rfl⟩
  rw [← efs_3] at hP hD
  have hlfs_3 : fs_3.length = 155 := by rw [efs_3, List.length_set]; exact hlen
  have hfs_3_48 : fs_3[48]? = some (.ref qf48) := by rw [efs_3, List.getElem?_set_ne (by decide)]; exact hf48
  have hfs_3_49 : fs_3[49]? = some (.ref qf49) := by rw [efs_3, List.getElem?_set_ne (by decide)]; exact hf49
  have hfs_3_50 : fs_3[50]? = some (.int (v50 + 1)) := by rw [efs_3, List.getElem?_set_self (by rw [hlen]; decide)]
  replace hP : va_P (dC, dI) vwCl [(h0, .inr (13, fs_3)), (qf48, .inl (cf48, 3000, .inl (upd f48 (v50 : Int32).toNatClampNeg a1))), (qf49, .inl (cf49, 3000, .inl (upd f49 (v50 : Int32).toNatClampNeg a2)))] H := hP
  replace hD : va_D A [(h0, .inr (13, fs_3)), (qf48, .inl (cf48, 3000, .inl (upd f48 (v50 : Int32).toNatClampNeg a1))), (qf49, .inl (cf49, 3000, .inl (upd f49 (v50 : Int32).toNatClampNeg a2)))] := hD
  have hrs_4 : ∀ j : Nat, j ≠ 50 → fs_3[j]? = zs[j]? := fun j g50 => ((congrArg (fun z : List Value => z[j]?) efs_3).trans (List.getElem?_set_ne (Ne.symm g50))).trans (hrs0 j g50)
  have hr0 := Option.some.inj hsp
  clear hsp
  obtain ⟨hq0, hr1⟩ := Prod.mk.inj hr0
  clear hr0
  obtain ⟨hq1, hr2⟩ := Prod.mk.inj hr1
  clear hr1
  subst hq0
  subst hq1
  subst hr2
  have hP9 := hP.sub (ws' := [(h0, .inr (13, fs_3)), (qf48, .inl (cf48, 3000, .inl (upd f48 (v50 : Int32).toNatClampNeg a1))), (qf49, .inl (cf49, 3000, .inl (upd f49 (v50 : Int32).toNatClampNeg a2)))]) [0, 1, 2] rfl
  have hD9 := hD.sub (ws' := [(h0, .inr (13, fs_3)), (qf48, .inl (cf48, 3000, .inl (upd f48 (v50 : Int32).toNatClampNeg a1))), (qf49, .inl (cf49, 3000, .inl (upd f49 (v50 : Int32).toNatClampNeg a2)))]) [0, 1, 2] (by decide) rfl
  have hK9 := hK.sub (tys' := [(cf48, .int), (cf49, .int)]) [0, 1] rfl
  exact W.vret hx hb hr (fun t ht hW => ⟨⟨(fs_3), rfl, ⟨trivial, hlfs_3, hrs_4, hfs_3_50⟩, by rw [ht]; exact hP9, va_K.moved hW.alike hK9, hD9⟩, hS.F ht⟩) hS.2.2 dX13_come_30
def sp_tm_canTake (nf : Nat) (a1 : Int32) (v9 : Int32) (f21 : Nat → Int32) (f11 : Nat → Int32) (f19 : Nat → Int32) : Option (Int32) := (if v9 = 0 then (if a1 < 0 then none else if 9000 ≤ (a1 : Int32).toNatClampNeg then none else (if (f21 (a1 : Int32).toNatClampNeg) = 0 then (if a1 < 0 then none else if 9000 ≤ (a1 : Int32).toNatClampNeg then none else (if (f11 (a1 : Int32).toNatClampNeg) = 25 then (some 1) else (if a1 < 0 then none else if 9000 ≤ (a1 : Int32).toNatClampNeg then none else (if (f11 (a1 : Int32).toNatClampNeg) = 32 then (some 1) else (if a1 < 0 then none else if 9000 ≤ (a1 : Int32).toNatClampNeg then none else (if (f11 (a1 : Int32).toNatClampNeg) = 30 then (if a1 < 0 then none else if 9000 ≤ (a1 : Int32).toNatClampNeg then none else (if (f19 (a1 : Int32).toNatClampNeg) = (-1) then (some 0) else (some 1))) else (some 0))))))) else (some 0))) else (some 1))
set_option maxHeartbeats 4000000 in
set_option maxRecDepth 100000 in
/-- ClassMillModel.canTake -/
theorem tm_canTake (l : Launch) (dC : Nat → ClassId) (dI : Nat → Nat → Nat) (sz : Nat) (h0 : Nat) (zs : (List Value)) (a1 : Int32) (v9 : Int32) (qf11 : Nat) (qf19 : Nat) (qf21 : Nat) (cf21 : ClassId) (f21 : (Nat → Int32)) (cf11 : ClassId) (f11 : (Nat → Int32)) (cf19 : ClassId) (f19 : (Nat → Int32)) (nf : Nat) (r0 : Int32) (hlen : zs.length = 155) (hf9 : zs[9]? = some (.int v9)) (hf11 : zs[11]? = some (.ref qf11)) (hf19 : zs[19]? = some (.ref qf19)) (hf21 : zs[21]? = some (.ref qf21)) (hsp : sp_tm_canTake nf a1 v9 f21 f11 f19 = some r0) : Met l yX13_canTake (.code yX13_canTake cX13_canTake 2 (some .boolean) :: VS_h5) ({ frames := 0, cells := 0, slots := 0, locals := 0 }) (va_Pc [.ref h0, .int a1] (fun U => U.heap.size = sz ∧ va_P (dC, dI) vwCl [(h0, .inr (13, zs)), (qf21, .inl (cf21, 9000, .inl f21)), (qf11, .inl (cf11, 9000, .inl f11)), (qf19, .inl (cf19, 9000, .inl f19))] U.heap ∧ va_K (dC, dI) vwCl [(cf21, .boolean), (cf11, .int), (cf19, .int)] U ∧ va_D (fun _ => True) [(h0, .inr (13, zs)), (qf21, .inl (cf21, 9000, .inl f21)), (qf11, .inl (cf11, 9000, .inl f11)), (qf19, .inl (cf19, 9000, .inl f19))])) (va_Qi (fun (r : Int32) (u : (List Value)) => match u with | (zo1) => (r0 = r ∧ (r0 = 0 ∨ r0 = 1)) ∧ zo1.length = 155 ∧ (∀ j : Nat, zo1[j]? = zs[j]?)) (fun (u : (List Value)) (t : State) => match u with | (zo1) => va_P (dC, dI) vwCl [(h0, .inr (13, zo1)), (qf21, .inl (cf21, 9000, .inl f21)), (qf11, .inl (cf11, 9000, .inl f11)), (qf19, .inl (cf19, 9000, .inl f19))] t.heap ∧ va_K (dC, dI) vwCl [(cf21, .boolean), (cf11, .int), (cf19, .int)] t ∧ va_D (va_A [(h0, .inr (13, zs)), (qf21, .inl (cf21, 9000, .inl f21)), (qf11, .inl (cf11, 9000, .inl f11)), (qf19, .inl (cf19, 9000, .inl f19))] sz) [(h0, .inr (13, zo1)), (qf21, .inl (cf21, 9000, .inl f21)), (qf11, .inl (cf11, 9000, .inl f11)), (qf19, .inl (cf19, 9000, .inl f19))]) (va_A [(h0, .inr (13, zs)), (qf21, .inl (cf21, 9000, .inl f21)), (qf11, .inl (cf11, 9000, .inl f11)), (qf19, .inl (cf19, 9000, .inl f19))] sz)) 0 0 (va_A [(h0, .inr (13, zs)), (qf21, .inl (cf21, 9000, .inl f21)), (qf11, .inl (cf11, 9000, .inl f11)), (qf19, .inl (cf19, 9000, .inl f19))] sz) := by
  refine Met.ofW (cc := cX13_canTake) (maxL := 2) (ret := (some .boolean)) (by decide) rfl ?_
  intro p e s m args below meth c s₁ B hml hv
  obtain ⟨rfl, hsz, hP, hK, hD0⟩ := hv
  have hx := B.exec
  have hb := B.bytes
  have hr := B.returns
  have hts := atoms_spec (ws := (.code yX13_canTake cX13_canTake 2 (some .boolean) :: VS_h5)) B.pre
  replace hts := fun w (h : w ∈ VS_h5) => hts w (List.mem_cons_of_mem _ h)
  have hown : s.vm.findClass RX13 = some m.cls := findClass_of_methodNamed B.named
  have hlocks := B.notSynchronized
  subst hsz
  have hD := hD0.self (sz := s.heap.size)
  generalize hAe : va_A [(h0, .inr (13, zs)), (qf21, .inl (cf21, 9000, .inl f21)), (qf11, .inl (cf11, 9000, .inl f11)), (qf19, .inl (cf19, 9000, .inl f19))] s.heap.size = A at hD  ⊢
  have hA : ∀ q : Nat, s.heap.size ≤ q → A q := fun q h => by rw [← hAe]; exact Or.inr h
  have hP : va_P (dC, dI) vwCl [(h0, .inr (13, zs)), (qf21, .inl (cf21, 9000, .inl f21)), (qf11, .inl (cf11, 9000, .inl f11)), (qf19, .inl (cf19, 9000, .inl f19))] s.heap := hP
  have hl := lv_entry ([.ref h0, .int a1]) (n := 2) (Nat.le_of_ble_eq_true rfl)
  rw [lg_entry_eq]
  generalize (lg_sl ([.ref h0, .int a1]) ++ List.replicate (2 - (lg_sl ([.ref h0, .int a1])).length) Slot.unset).toArray = ls at hl ⊢
  have hl : lv_has ls 2 [(0, .ref h0), (1, .int a1)] := hl
  obtain ⟨H, hH⟩ : ∃ H : Heap, s.heap = H := ⟨_, rfl⟩
  rw [hH] at hP ⊢
  have hS : va_S A s.heap H [] := by rw [← hH]; exact va_S.rf
  obtain ⟨locs, hlo⟩ : ∃ locs : List Loc, locs = [] := ⟨_, rfl⟩
  rw [← hlo] at hS ⊢
  have hrs0 : ∀ j : Nat, zs[j]? = zs[j]? := fun _  => rfl
  unfold sp_tm_canTake at hsp
  refine lv_aload_n hx hb dX13_canTake_0 rfl (lv_at hl 0 rfl) ?_
  refine va_get (D := (dC, dI)) (ci := 13) (v := .int v9) (C := RX13) (T := TX13) (N := 155) hx hb hts uV_h5_X13 hown hK hP 0 rfl rfl 9 (by decide) (hts (.fieldLink RX13 319 "ClassMillModel" "fault" "I") mw_h5_1) (fun _ h9 => h9) hf9 dX13_canTake_1 ?_
  refine lv_if_eq (tgt := 9) hx hb dX13_canTake_4 (by decide) (fun c_1 => ?_) (fun c_1 => ?_)
  · rw [if_pos c_1] at hsp
    refine lv_aload_n hx hb dX13_canTake_9 rfl (lv_at hl 0 rfl) ?_
    refine va_get (D := (dC, dI)) (ci := 13) (v := .ref qf21) (C := RX13) (T := TX13) (N := 155) hx hb hts uV_h5_X13 hown hK hP 0 rfl rfl 21 (by decide) (hts (.fieldLink RX13 58 "ClassMillModel" "inBrackets" "[Z") mw_h5_33) (fun _ h9 => h9) hf21 dX13_canTake_10 ?_
    refine lv_iload_n hx hb dX13_canTake_13 rfl (lv_at hl 1 rfl) ?_
    obtain ⟨hi_2, hsp⟩ := ox_in hsp
    refine va_zald hx hb hK hP 1 0 rfl rfl (i := a1) hi_2 dX13_canTake_14 ?_
    refine lv_if_eq (tgt := 20) hx hb dX13_canTake_15 (by decide) (fun c_3 => ?_) (fun c_3 => ?_)
    · rw [if_pos c_3] at hsp
      refine lv_aload_n hx hb dX13_canTake_20 rfl (lv_at hl 0 rfl) ?_
      refine va_get (D := (dC, dI)) (ci := 13) (v := .ref qf11) (C := RX13) (T := TX13) (N := 155) hx hb hts uV_h5_X13 hown hK hP 0 rfl rfl 11 (by decide) (hts (.fieldLink RX13 28 "ClassMillModel" "node" "[I") mw_h5_34) (fun _ h9 => h9) hf11 dX13_canTake_21 ?_
      refine lv_iload_n hx hb dX13_canTake_24 rfl (lv_at hl 1 rfl) ?_
      obtain ⟨hi_4, hsp⟩ := ox_in hsp
      refine va_iald hx hb hK hP 2 1 rfl rfl (i := a1) hi_4 dX13_canTake_25 ?_
      refine lv_bipush (v := 25) hx hb dX13_canTake_26 (by decide) ?_
      refine lv_icmp_eq (tgt := 42) hx hb dX13_canTake_28 (by decide) (fun c_5 => ?_) (fun c_5 => ?_)
      · rw [if_pos c_5] at hsp
        refine lv_iconst (v := 1) hx hb dX13_canTake_42 (by decide) ?_
        have hr0 := Option.some.inj hsp
        clear hsp
        subst hr0
        have hP9 := hP.sub (ws' := [(h0, .inr (13, zs)), (qf21, .inl (cf21, 9000, .inl f21)), (qf11, .inl (cf11, 9000, .inl f11)), (qf19, .inl (cf19, 9000, .inl f19))]) [0, 1, 2, 3] rfl
        have hD9 := hD.sub (ws' := [(h0, .inr (13, zs)), (qf21, .inl (cf21, 9000, .inl f21)), (qf11, .inl (cf11, 9000, .inl f11)), (qf19, .inl (cf19, 9000, .inl f19))]) [0, 1, 2, 3] (by decide) rfl
        have hK9 := hK.sub (tys' := [(cf21, .boolean), (cf11, .int), (cf19, .int)]) [0, 1, 2] rfl
        exact W.zret hx hb hr (by decide) (fun t ht hW => ⟨⟨(1), (zs), rfl, ⟨⟨rfl, Or.inr rfl⟩, hlen, hrs0⟩, by rw [ht]; exact hP9, va_K.moved hW.alike hK9, hD9⟩, hS.F ht⟩) hS.2.2 dX13_canTake_43
      · rw [if_neg c_5] at hsp
        refine lv_aload_n hx hb dX13_canTake_31 rfl (lv_at hl 0 rfl) ?_
        refine va_get (D := (dC, dI)) (ci := 13) (v := .ref qf11) (C := RX13) (T := TX13) (N := 155) hx hb hts uV_h5_X13 hown hK hP 0 rfl rfl 11 (by decide) (hts (.fieldLink RX13 28 "ClassMillModel" "node" "[I") mw_h5_34) (fun _ h9 => h9) hf11 dX13_canTake_32 ?_
        refine lv_iload_n hx hb dX13_canTake_35 rfl (lv_at hl 1 rfl) ?_
        obtain ⟨hi_6, hsp⟩ := ox_in hsp
        refine va_iald hx hb hK hP 2 1 rfl rfl (i := a1) hi_6 dX13_canTake_36 ?_
        refine lv_bipush (v := 32) hx hb dX13_canTake_37 (by decide) ?_
        refine lv_icmp_ne (tgt := 44) hx hb dX13_canTake_39 (by decide) (fun c_7 => ?_) (fun c_7 => ?_)
        · rw [if_neg c_7] at hsp
          refine lv_aload_n hx hb dX13_canTake_44 rfl (lv_at hl 0 rfl) ?_
          refine va_get (D := (dC, dI)) (ci := 13) (v := .ref qf11) (C := RX13) (T := TX13) (N := 155) hx hb hts uV_h5_X13 hown hK hP 0 rfl rfl 11 (by decide) (hts (.fieldLink RX13 28 "ClassMillModel" "node" "[I") mw_h5_34) (fun _ h9 => h9) hf11 dX13_canTake_45 ?_
          refine lv_iload_n hx hb dX13_canTake_48 rfl (lv_at hl 1 rfl) ?_
          obtain ⟨hi_8, hsp⟩ := ox_in hsp
          refine va_iald hx hb hK hP 2 1 rfl rfl (i := a1) hi_8 dX13_canTake_49 ?_
          refine lv_bipush (v := 30) hx hb dX13_canTake_50 (by decide) ?_
          refine lv_icmp_ne (tgt := 69) hx hb dX13_canTake_52 (by decide) (fun c_9 => ?_) (fun c_9 => ?_)
          · rw [if_neg c_9] at hsp
            refine lv_iconst (v := 0) hx hb dX13_canTake_69 (by decide) ?_
            have hr0 := Option.some.inj hsp
            clear hsp
            subst hr0
            have hP9 := hP.sub (ws' := [(h0, .inr (13, zs)), (qf21, .inl (cf21, 9000, .inl f21)), (qf11, .inl (cf11, 9000, .inl f11)), (qf19, .inl (cf19, 9000, .inl f19))]) [0, 1, 2, 3] rfl
            have hD9 := hD.sub (ws' := [(h0, .inr (13, zs)), (qf21, .inl (cf21, 9000, .inl f21)), (qf11, .inl (cf11, 9000, .inl f11)), (qf19, .inl (cf19, 9000, .inl f19))]) [0, 1, 2, 3] (by decide) rfl
            have hK9 := hK.sub (tys' := [(cf21, .boolean), (cf11, .int), (cf19, .int)]) [0, 1, 2] rfl
            exact W.zret hx hb hr (by decide) (fun t ht hW => ⟨⟨(0), (zs), rfl, ⟨⟨rfl, Or.inl rfl⟩, hlen, hrs0⟩, by rw [ht]; exact hP9, va_K.moved hW.alike hK9, hD9⟩, hS.F ht⟩) hS.2.2 dX13_canTake_70
          · rw [if_pos c_9] at hsp
            refine lv_aload_n hx hb dX13_canTake_55 rfl (lv_at hl 0 rfl) ?_
            refine va_get (D := (dC, dI)) (ci := 13) (v := .ref qf19) (C := RX13) (T := TX13) (N := 155) hx hb hts uV_h5_X13 hown hK hP 0 rfl rfl 19 (by decide) (hts (.fieldLink RX13 52 "ClassMillModel" "means" "[I") mw_h5_35) (fun _ h9 => h9) hf19 dX13_canTake_56 ?_
            refine lv_iload_n hx hb dX13_canTake_59 rfl (lv_at hl 1 rfl) ?_
            obtain ⟨hi_10, hsp⟩ := ox_in hsp
            refine va_iald hx hb hK hP 3 2 rfl rfl (i := a1) hi_10 dX13_canTake_60 ?_
            refine lv_iconst (v := (-1)) hx hb dX13_canTake_61 (by decide) ?_
            refine lv_icmp_eq (tgt := 69) hx hb dX13_canTake_62 (by decide) (fun c_11 => ?_) (fun c_11 => ?_)
            · rw [if_pos c_11] at hsp
              refine lv_iconst (v := 0) hx hb dX13_canTake_69 (by decide) ?_
              have hr0 := Option.some.inj hsp
              clear hsp
              subst hr0
              have hP9 := hP.sub (ws' := [(h0, .inr (13, zs)), (qf21, .inl (cf21, 9000, .inl f21)), (qf11, .inl (cf11, 9000, .inl f11)), (qf19, .inl (cf19, 9000, .inl f19))]) [0, 1, 2, 3] rfl
              have hD9 := hD.sub (ws' := [(h0, .inr (13, zs)), (qf21, .inl (cf21, 9000, .inl f21)), (qf11, .inl (cf11, 9000, .inl f11)), (qf19, .inl (cf19, 9000, .inl f19))]) [0, 1, 2, 3] (by decide) rfl
              have hK9 := hK.sub (tys' := [(cf21, .boolean), (cf11, .int), (cf19, .int)]) [0, 1, 2] rfl
              exact W.zret hx hb hr (by decide) (fun t ht hW => ⟨⟨(0), (zs), rfl, ⟨⟨rfl, Or.inl rfl⟩, hlen, hrs0⟩, by rw [ht]; exact hP9, va_K.moved hW.alike hK9, hD9⟩, hS.F ht⟩) hS.2.2 dX13_canTake_70
            · rw [if_neg c_11] at hsp
              refine lv_iconst (v := 1) hx hb dX13_canTake_65 (by decide) ?_
              refine lv_goto (tgt := 70) hx hb dX13_canTake_66 (by decide) ?_
              have hr0 := Option.some.inj hsp
              clear hsp
              subst hr0
              have hP9 := hP.sub (ws' := [(h0, .inr (13, zs)), (qf21, .inl (cf21, 9000, .inl f21)), (qf11, .inl (cf11, 9000, .inl f11)), (qf19, .inl (cf19, 9000, .inl f19))]) [0, 1, 2, 3] rfl
              have hD9 := hD.sub (ws' := [(h0, .inr (13, zs)), (qf21, .inl (cf21, 9000, .inl f21)), (qf11, .inl (cf11, 9000, .inl f11)), (qf19, .inl (cf19, 9000, .inl f19))]) [0, 1, 2, 3] (by decide) rfl
              have hK9 := hK.sub (tys' := [(cf21, .boolean), (cf11, .int), (cf19, .int)]) [0, 1, 2] rfl
              exact W.zret hx hb hr (by decide) (fun t ht hW => ⟨⟨(1), (zs), rfl, ⟨⟨rfl, Or.inr rfl⟩, hlen, hrs0⟩, by rw [ht]; exact hP9, va_K.moved hW.alike hK9, hD9⟩, hS.F ht⟩) hS.2.2 dX13_canTake_70
        · rw [if_pos c_7] at hsp
          refine lv_iconst (v := 1) hx hb dX13_canTake_42 (by decide) ?_
          have hr0 := Option.some.inj hsp
          clear hsp
          subst hr0
          have hP9 := hP.sub (ws' := [(h0, .inr (13, zs)), (qf21, .inl (cf21, 9000, .inl f21)), (qf11, .inl (cf11, 9000, .inl f11)), (qf19, .inl (cf19, 9000, .inl f19))]) [0, 1, 2, 3] rfl
          have hD9 := hD.sub (ws' := [(h0, .inr (13, zs)), (qf21, .inl (cf21, 9000, .inl f21)), (qf11, .inl (cf11, 9000, .inl f11)), (qf19, .inl (cf19, 9000, .inl f19))]) [0, 1, 2, 3] (by decide) rfl
          have hK9 := hK.sub (tys' := [(cf21, .boolean), (cf11, .int), (cf19, .int)]) [0, 1, 2] rfl
          exact W.zret hx hb hr (by decide) (fun t ht hW => ⟨⟨(1), (zs), rfl, ⟨⟨rfl, Or.inr rfl⟩, hlen, hrs0⟩, by rw [ht]; exact hP9, va_K.moved hW.alike hK9, hD9⟩, hS.F ht⟩) hS.2.2 dX13_canTake_43
    · rw [if_neg c_3] at hsp
      refine lv_iconst (v := 0) hx hb dX13_canTake_18 (by decide) ?_
      have hr0 := Option.some.inj hsp
      clear hsp
      subst hr0
      have hP9 := hP.sub (ws' := [(h0, .inr (13, zs)), (qf21, .inl (cf21, 9000, .inl f21)), (qf11, .inl (cf11, 9000, .inl f11)), (qf19, .inl (cf19, 9000, .inl f19))]) [0, 1, 2, 3] rfl
      have hD9 := hD.sub (ws' := [(h0, .inr (13, zs)), (qf21, .inl (cf21, 9000, .inl f21)), (qf11, .inl (cf11, 9000, .inl f11)), (qf19, .inl (cf19, 9000, .inl f19))]) [0, 1, 2, 3] (by decide) rfl
      have hK9 := hK.sub (tys' := [(cf21, .boolean), (cf11, .int), (cf19, .int)]) [0, 1, 2] rfl
      exact W.zret hx hb hr (by decide) (fun t ht hW => ⟨⟨(0), (zs), rfl, ⟨⟨rfl, Or.inl rfl⟩, hlen, hrs0⟩, by rw [ht]; exact hP9, va_K.moved hW.alike hK9, hD9⟩, hS.F ht⟩) hS.2.2 dX13_canTake_19
  · rw [if_neg c_1] at hsp
    refine lv_iconst (v := 1) hx hb dX13_canTake_7 (by decide) ?_
    have hr0 := Option.some.inj hsp
    clear hsp
    subst hr0
    have hP9 := hP.sub (ws' := [(h0, .inr (13, zs)), (qf21, .inl (cf21, 9000, .inl f21)), (qf11, .inl (cf11, 9000, .inl f11)), (qf19, .inl (cf19, 9000, .inl f19))]) [0, 1, 2, 3] rfl
    have hD9 := hD.sub (ws' := [(h0, .inr (13, zs)), (qf21, .inl (cf21, 9000, .inl f21)), (qf11, .inl (cf11, 9000, .inl f11)), (qf19, .inl (cf19, 9000, .inl f19))]) [0, 1, 2, 3] (by decide) rfl
    have hK9 := hK.sub (tys' := [(cf21, .boolean), (cf11, .int), (cf19, .int)]) [0, 1, 2] rfl
    exact W.zret hx hb hr (by decide) (fun t ht hW => ⟨⟨(1), (zs), rfl, ⟨⟨rfl, Or.inr rfl⟩, hlen, hrs0⟩, by rw [ht]; exact hP9, va_K.moved hW.alike hK9, hD9⟩, hS.F ht⟩) hS.2.2 dX13_canTake_8
def sp_tm_side (nf : Nat) (a1 : Int32) (a2 : Int32) (v9 : Int32) (v10 : Int32) (f12 : Nat → Int32) (f5 : Nat → Int32) : Option (Int32 × Int32 × Int32) := (if a2 = 3 then (if a1 < 0 then none else if 9000 ≤ (a1 : Int32).toNatClampNeg then none else ((sp_tm_wrong nf 6 (f12 (a1 : Int32).toNatClampNeg) v9 v10 f5).bind (fun p1 => (some (a2, p1.1, p1.2))))) else (some (a2, v10, v9)))
