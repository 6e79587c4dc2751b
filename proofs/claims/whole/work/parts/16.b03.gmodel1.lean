set_option maxHeartbeats 4000000 in
set_option maxRecDepth 100000 in
/-- ClassMillModel.store -/
theorem tm_store (l : Launch) (dC : Nat → ClassId) (dI : Nat → Nat → Nat) (sz : Nat) (h0 : Nat) (zs : (List Value)) (a1 : Int32) (a2 : Int32) (v53 : Int32) (qf67 : Nat) (v68 : Int32) (v70 : Int32) (cf67 : ClassId) (f67 : (Nat → Int32)) (nf : Nat) (o67 : (Nat → Int32)) (w68 : Int32) (w70 : Int32) (hlen : zs.length = 155) (hf53 : zs[53]? = some (.int v53)) (hf67 : zs[67]? = some (.ref qf67)) (hf68 : zs[68]? = some (.int v68)) (hf70 : zs[70]? = some (.int v70)) (hsp : sp_tm_store nf a1 a2 v53 v68 v70 f67 = some (o67, w68, w70)) : Met l yX13_store (.code yX13_store cX13_store 3 none :: VS_h5) ({ frames := 1, cells := 0, slots := 0, locals := 21 }) (va_Pc [.ref h0, .int a1, .int a2] (fun U => U.heap.size = sz ∧ va_P (dC, dI) vwCl [(h0, .inr (13, zs)), (qf67, .inl (cf67, 12000, .inl f67))] U.heap ∧ va_K (dC, dI) vwCl [(cf67, .int)] U ∧ va_D (fun _ => True) [(h0, .inr (13, zs)), (qf67, .inl (cf67, 12000, .inl f67))])) (va_Qv (fun (u : (List Value)) => match u with | (zo1) => True ∧ zo1.length = 155 ∧ (∀ j : Nat, j ≠ 68 → j ≠ 70 → zo1[j]? = zs[j]?) ∧ zo1[68]? = some (.int w68) ∧ zo1[70]? = some (.int w70)) (fun (u : (List Value)) (t : State) => match u with | (zo1) => va_P (dC, dI) vwCl [(h0, .inr (13, zo1)), (qf67, .inl (cf67, 12000, .inl o67))] t.heap ∧ va_K (dC, dI) vwCl [(cf67, .int)] t ∧ va_D (va_A [(h0, .inr (13, zs)), (qf67, .inl (cf67, 12000, .inl f67))] sz) [(h0, .inr (13, zo1)), (qf67, .inl (cf67, 12000, .inl o67))]) (va_A [(h0, .inr (13, zs)), (qf67, .inl (cf67, 12000, .inl f67))] sz)) 0 0 (va_A [(h0, .inr (13, zs)), (qf67, .inl (cf67, 12000, .inl f67))] sz) := by
  refine Met.ofW (cc := cX13_store) (maxL := 3) (ret := none) (by decide) rfl ?_
  intro p e s m args below meth c s₁ B hml hv
  obtain ⟨rfl, hsz, hP, hK, hD0⟩ := hv
  have hx := B.exec
  have hb := B.bytes
  have hr := B.returns
  have hts := atoms_spec (ws := (.code yX13_store cX13_store 3 none :: VS_h5)) B.pre
  replace hts := fun w (h : w ∈ VS_h5) => hts w (List.mem_cons_of_mem _ h)
  have hown : s.vm.findClass RX13 = some m.cls := findClass_of_methodNamed B.named
  have hlocks := B.notSynchronized
  subst hsz
  have hD := hD0.self (sz := s.heap.size)
  generalize hAe : va_A [(h0, .inr (13, zs)), (qf67, .inl (cf67, 12000, .inl f67))] s.heap.size = A at hD  ⊢
  have hA : ∀ q : Nat, s.heap.size ≤ q → A q := fun q h => by rw [← hAe]; exact Or.inr h
  have hP : va_P (dC, dI) vwCl [(h0, .inr (13, zs)), (qf67, .inl (cf67, 12000, .inl f67))] s.heap := hP
  have hl := lv_entry ([.ref h0, .int a1, .int a2]) (n := 3) (Nat.le_of_ble_eq_true rfl)
  rw [lg_entry_eq]
  generalize (lg_sl ([.ref h0, .int a1, .int a2]) ++ List.replicate (3 - (lg_sl ([.ref h0, .int a1, .int a2])).length) Slot.unset).toArray = ls at hl ⊢
  have hl : lv_has ls 3 [(0, .ref h0), (1, .int a1), (2, .int a2)] := hl
  obtain ⟨H, hH⟩ : ∃ H : Heap, s.heap = H := ⟨_, rfl⟩
  rw [hH] at hP ⊢
  have hS : va_S A s.heap H [] := by rw [← hH]; exact va_S.rf
  obtain ⟨locs, hlo⟩ : ∃ locs : List Loc, locs = [] := ⟨_, rfl⟩
  rw [← hlo] at hS ⊢
  have hrs0 : ∀ j : Nat, j ≠ 68 → j ≠ 70 → zs[j]? = zs[j]? := fun _ _ _  => rfl
  unfold sp_tm_store at hsp
  refine lv_aload_n hx hb dX13_store_0 rfl (lv_at hl 0 rfl) ?_
  refine lv_iload_n hx hb dX13_store_1 rfl (lv_at hl 1 rfl) ?_
  refine lv_iconst (v := 1) hx hb dX13_store_2 (by decide) ?_
  refine lv_icmp_gt (tgt := 11) hx hb dX13_store_3 (by decide) (fun c_1 => ?_) (fun c_1 => ?_)
  · rw [if_pos c_1] at hsp
    refine lv_bipush (v := 58) hx hb dX13_store_11 (by decide) ?_
    obtain ⟨⟨g901_0, u1_1⟩, hu_1, hsp⟩ := ox_bind hsp
    try dsimp only at hsp
    have hPc := hP.sub (ws' := [(h0, .inr (13, zs)), (qf67, .inl (cf67, 12000, .inl f67))]) [0, 1] rfl
    have hDc := hD.sub (ws' := [(h0, .inr (13, zs)), (qf67, .inl (cf67, 12000, .inl f67))]) [0, 1] (by decide) rfl
    have hKc := hK.sub (tys' := [(cf67, .int)]) [0] rfl
    have hFc := va_free (wc := [(h0, .inr (13, zs)), (qf67, .inl (cf67, 12000, .inl f67))]) hD hS hA [0, 1] rfl
    refine va_callv (va_runV (As := [.int 58]) (rest := []) ⟨hx, hb, hml, hown, hts⟩ (tm_put l dC dI H.size h0 zs 58 qf67 v68 cf67 f67 nf g901_0 u1_1 hlen hf67 hf68 hu_1) (cwV 1 hts gv_h5_6 rfl rfl rfl (by decide +kernel) ⟨Nat.le_of_ble_eq_true rfl, Nat.le_of_ble_eq_true rfl⟩) ⟨fun a U g mk q => by obtain ⟨q0, q1, qP, qK, qD⟩ := q; exact ⟨q0, q1, qP, va_K.moved (u := U) (U := U.calling g mk a) (Vm.Alike.refl U.vm) qK, qD⟩, va_recv hKc hPc (ci := 13) (q0 := 0) rfl rfl, fun U hU hW => ⟨rfl, by rw [hU], by rw [hU]; exact hPc, va_K.moved hW.alike hKc, hDc.weaken (fun _ _ _ _ => trivial)⟩⟩ rfl rfl hl.1 rfl (lv_room (Nat.le_of_ble_eq_true rfl)) dX13_store_13 ⟨Nat.le_of_ble_eq_true rfl, Nat.le_of_ble_eq_true rfl⟩) hS (fun q _ h => hFc q h) hFc ?_
    clear hS
    intro u t H1 locs ht hvm hw hB hz1 hk1 hS
    obtain ⟨z_1, rfl⟩ : ∃ z, z = u := ⟨_, rfl⟩
    obtain ⟨hP1, hK1, hD1⟩ := hB
    rw [ht] at hP1
    have hK1 := va_K.moved hvm.symm hK1
    try dsimp only at hw
    have hPD := va_join (wr := []) (w1 := [(h0, .inr (13, z_1)), (qf67, .inl (cf67, 12000, .inl g901_0))]) hP hD [0, 1] [] rfl rfl (by decide) (by decide) hk1 hFc hP1 hD1
    clear hP hD
    obtain ⟨hP, hD⟩ := hPD
    replace hK := (hK.sub (tys' := []) [] rfl).app hK1
    clear hPc hDc hKc hFc hP1 hK1 hD1 hz1 hk1 ht hvm
    generalize H1 = H at hP hS ⊢
    replace hP : va_P (dC, dI) vwCl [(h0, .inr (13, z_1)), (qf67, .inl (cf67, 12000, .inl g901_0))] H := hP
    replace hD : va_D A [(h0, .inr (13, z_1)), (qf67, .inl (cf67, 12000, .inl g901_0))] := hD
    replace hK : va_K (dC, dI) vwCl [(cf67, .int)] s := hK
    obtain ⟨hwa_1, hln_1, hre_1, hch_1_68⟩ := hw
    have hfk_1_53 : z_1[53]? = some (.int v53) := (hre_1 53 (by decide)).trans (hf53)
    have hfk_1_67 : z_1[67]? = some (.ref qf67) := (hre_1 67 (by decide)).trans (hf67)
    have hfk_1_70 : z_1[70]? = some (.int v70) := (hre_1 70 (by decide)).trans (hf70)
    have hrq_1 : ∀ j : Nat, j ≠ 68 → j ≠ 70 → z_1[j]? = zs[j]? := fun j g68 g70 => (hre_1 j g68).trans (hrs0 j g68 g70)
    refine lv_aload_n hx hb dX13_store_16 rfl (lv_at hl 0 rfl) ?_
    refine lv_aload_n hx hb dX13_store_17 rfl (lv_at hl 0 rfl) ?_
    refine lv_iload_n hx hb dX13_store_18 rfl (lv_at hl 2 rfl) ?_
    obtain ⟨u2_0, hu_2, hsp⟩ := ox_bind hsp
    try dsimp only at hsp
    have hPc := hP.sub (ws' := [(h0, .inr (13, z_1))]) [0] rfl
    have hDc := hD.sub (ws' := [(h0, .inr (13, z_1))]) [0] (by decide) rfl
    have hKc := hK.sub (tys' := []) [] rfl
    have hFc := va_free (wc := [(h0, .inr (13, z_1))]) hD hS hA [0] rfl
    refine va_calli (va_runV (As := [.int a2]) (rest := [.ref h0]) ⟨hx, hb, hml, hown, hts⟩ (tm_local l dC dI H.size h0 z_1 a2 v53 nf u2_0 hln_1 hfk_1_53 hu_2) (cwV 1 hts gv_h5_8 rfl rfl rfl (by decide +kernel) ⟨Nat.le_of_ble_eq_true rfl, Nat.le_of_ble_eq_true rfl⟩) ⟨fun a U g mk q => by obtain ⟨q0, q1, qP, qK, qD⟩ := q; exact ⟨q0, q1, qP, va_K.moved (u := U) (U := U.calling g mk a) (Vm.Alike.refl U.vm) qK, qD⟩, va_recv hKc hPc (ci := 13) (q0 := 0) rfl rfl, fun U hU hW => ⟨rfl, by rw [hU], by rw [hU]; exact hPc, va_K.moved hW.alike hKc, hDc.weaken (fun _ _ _ _ => trivial)⟩⟩ rfl rfl hl.1 rfl (lv_room (Nat.le_of_ble_eq_true rfl)) dX13_store_19 ⟨Nat.le_of_ble_eq_true rfl, Nat.le_of_ble_eq_true rfl⟩) hS (fun q _ h => hFc q h) hFc ?_
    clear hS
    intro r_2 u t H1 locs ht hvm hw hB hz1 hk1 hS
    obtain ⟨z_2, rfl⟩ : ∃ z, z = u := ⟨_, rfl⟩
    obtain ⟨hP1, hK1, hD1⟩ := hB
    rw [ht] at hP1
    have hK1 := va_K.moved hvm.symm hK1
    try dsimp only at hw
    have hPD := va_join (wr := [(qf67, .inl (cf67, 12000, .inl g901_0))]) (w1 := [(h0, .inr (13, z_2))]) hP hD [0] [1] rfl rfl (by decide) (by decide) hk1 hFc hP1 hD1
    clear hP hD
    obtain ⟨hP, hD⟩ := hPD
    replace hK := (hK.sub (tys' := [(cf67, .int)]) [0] rfl).app hK1
    clear hPc hDc hKc hFc hP1 hK1 hD1 hz1 hk1 ht hvm
    generalize H1 = H at hP hS ⊢
    replace hP : va_P (dC, dI) vwCl [(qf67, .inl (cf67, 12000, .inl g901_0)), (h0, .inr (13, z_2))] H := hP
    replace hD : va_D A [(qf67, .inl (cf67, 12000, .inl g901_0)), (h0, .inr (13, z_2))] := hD
    replace hK : va_K (dC, dI) vwCl [(cf67, .int)] s := hK
    obtain ⟨hwa_2, hln_2, hre_2⟩ := hw
    have hfk_2_53 : z_2[53]? = some (.int v53) := (hre_2 53 ).trans (hfk_1_53)
    have hfk_2_67 : z_2[67]? = some (.ref qf67) := (hre_2 67 ).trans (hfk_1_67)
    have hfk_2_68 : z_2[68]? = some (.int u1_1) := (hre_2 68 ).trans (hch_1_68)
    have hfk_2_70 : z_2[70]? = some (.int v70) := (hre_2 70 ).trans (hfk_1_70)
    have hrq_2 : ∀ j : Nat, j ≠ 68 → j ≠ 70 → z_2[j]? = zs[j]? := fun j g68 g70 => (hre_2 j ).trans (hrq_1 j g68 g70)
    obtain rfl := hwa_2
    obtain ⟨⟨g903_0, u3_1⟩, hu_3, hsp⟩ := ox_bind hsp
    try dsimp only at hsp
    have hPc := hP.sub (ws' := [(h0, .inr (13, z_2)), (qf67, .inl (cf67, 12000, .inl g901_0))]) [1, 0] rfl
    have hDc := hD.sub (ws' := [(h0, .inr (13, z_2)), (qf67, .inl (cf67, 12000, .inl g901_0))]) [1, 0] (by decide) rfl
    have hKc := hK.sub (tys' := [(cf67, .int)]) [0] rfl
    have hFc := va_free (wc := [(h0, .inr (13, z_2)), (qf67, .inl (cf67, 12000, .inl g901_0))]) hD hS hA [1, 0] rfl
    refine va_callv (va_runV (As := [.int u2_0]) (rest := []) ⟨hx, hb, hml, hown, hts⟩ (tm_put l dC dI H.size h0 z_2 u2_0 qf67 u1_1 cf67 g901_0 nf g903_0 u3_1 hln_2 hfk_2_67 hfk_2_68 hu_3) (cwV 1 hts gv_h5_6 rfl rfl rfl (by decide +kernel) ⟨Nat.le_of_ble_eq_true rfl, Nat.le_of_ble_eq_true rfl⟩) ⟨fun a U g mk q => by obtain ⟨q0, q1, qP, qK, qD⟩ := q; exact ⟨q0, q1, qP, va_K.moved (u := U) (U := U.calling g mk a) (Vm.Alike.refl U.vm) qK, qD⟩, va_recv hKc hPc (ci := 13) (q0 := 0) rfl rfl, fun U hU hW => ⟨rfl, by rw [hU], by rw [hU]; exact hPc, va_K.moved hW.alike hKc, hDc.weaken (fun _ _ _ _ => trivial)⟩⟩ rfl rfl hl.1 rfl (lv_room (Nat.le_of_ble_eq_true rfl)) dX13_store_22 ⟨Nat.le_of_ble_eq_true rfl, Nat.le_of_ble_eq_true rfl⟩) hS (fun q _ h => hFc q h) hFc ?_
    clear hS
    intro u t H1 locs ht hvm hw hB hz1 hk1 hS
    obtain ⟨z_3, rfl⟩ : ∃ z, z = u := ⟨_, rfl⟩
    obtain ⟨hP1, hK1, hD1⟩ := hB
    rw [ht] at hP1
    have hK1 := va_K.moved hvm.symm hK1
    try dsimp only at hw
    have hPD := va_join (wr := []) (w1 := [(h0, .inr (13, z_3)), (qf67, .inl (cf67, 12000, .inl g903_0))]) hP hD [1, 0] [] rfl rfl (by decide) (by decide) hk1 hFc hP1 hD1
    clear hP hD
    obtain ⟨hP, hD⟩ := hPD
    replace hK := (hK.sub (tys' := []) [] rfl).app hK1
    clear hPc hDc hKc hFc hP1 hK1 hD1 hz1 hk1 ht hvm
    generalize H1 = H at hP hS ⊢
    replace hP : va_P (dC, dI) vwCl [(h0, .inr (13, z_3)), (qf67, .inl (cf67, 12000, .inl g903_0))] H := hP
    replace hD : va_D A [(h0, .inr (13, z_3)), (qf67, .inl (cf67, 12000, .inl g903_0))] := hD
    replace hK : va_K (dC, dI) vwCl [(cf67, .int)] s := hK
    obtain ⟨hwa_3, hln_3, hre_3, hch_3_68⟩ := hw
    have hfk_3_53 : z_3[53]? = some (.int v53) := (hre_3 53 (by decide)).trans (hfk_2_53)
    have hfk_3_67 : z_3[67]? = some (.ref qf67) := (hre_3 67 (by decide)).trans (hfk_2_67)
    have hfk_3_70 : z_3[70]? = some (.int v70) := (hre_3 70 (by decide)).trans (hfk_2_70)
    have hrq_3 : ∀ j : Nat, j ≠ 68 → j ≠ 70 → z_3[j]? = zs[j]? := fun j g68 g70 => (hre_3 j g68).trans (hrq_2 j g68 g70)
    refine lv_aload_n hx hb dX13_store_25 rfl (lv_at hl 0 rfl) ?_
    refine lv_dup hx hb dX13_store_26 rfl ?_
    refine va_get (D := (dC, dI)) (ci := 13) (v := .int v70) (C := RX13) (T := TX13) (N := 155) hx hb hts uV_h5_X13 hown hK hP 0 rfl rfl 70 (by decide) (hts (.fieldLink RX13 629 "ClassMillModel" "piled" "I") mw_h5_47) (fun _ h9 => h9) hfk_3_70 dX13_store_27 ?_
    refine lv_iconst (v := 1) hx hb dX13_store_30 (by decide) ?_
    refine lv_isub hx hb dX13_store_31 ?_
    refine va_put (D := (dC, dI)) (ci := 13) (v := .int (v70 - 1)) (ty := .int) (C := RX13) (T := TX13) (N := 155) hx hb hts uV_h5_X13 tyX13 tyX13_ok nmX13 hown hK hP hD hS 0 rfl rfl 70 (by decide) (hts (.fieldLink RX13 629 "ClassMillModel" "piled" "I") mw_h5_47) (fun _ h9 => h9) rfl (by decide +kernel) rfl rfl (by rw [hln_3]; decide) dX13_store_32 ?_
    clear hP hD hS
    intro H locs hP hD hS
    obtain ⟨fs_3, efs_3⟩ : ∃ zf : List Value, zf = z_3.set 70 (.int (v70 - 1)) := ⟨_, rfl⟩
    rw [← efs_3] at hP hD
    have hlfs_3 : fs_3.length = 155 := by rw [efs_3, List.length_set]; exact hln_3
    have hfs_3_53 : fs_3[53]? = some (.int v53) := by rw [efs_3, List.getElem?_set_ne (by decide)]; exact hfk_3_53
    have hfs_3_67 : fs_3[67]? = some (.ref qf67) := by rw [efs_3, List.getElem?_set_ne (by decide)]; exact hfk_3_67
    have hfs_3_68 : fs_3[68]? = some (.int u3_1) := by rw [efs_3, List.getElem?_set_ne (by decide)]; exact hch_3_68
    have hfs_3_70 : fs_3[70]? = some (.int (v70 - 1)) := by rw [efs_3, List.getElem?_set_self (by rw [hln_3]; decide)]
    replace hP : va_P (dC, dI) vwCl [(h0, .inr (13, fs_3)), (qf67, .inl (cf67, 12000, .inl g903_0))] H := hP
    replace hD : va_D A [(h0, .inr (13, fs_3)), (qf67, .inl (cf67, 12000, .inl g903_0))] := hD
    have hrs_4 : ∀ j : Nat, j ≠ 68 → j ≠ 70 → fs_3[j]? = zs[j]? := fun j g68 g70 => ((congrArg (fun z : List Value => z[j]?) efs_3).trans (List.getElem?_set_ne (Ne.symm g70))).trans (hrq_3 j g68 g70)
    have hr0 := Option.some.inj hsp
    clear hsp
    obtain ⟨hq0, hr1⟩ := Prod.mk.inj hr0
    clear hr0
    obtain ⟨hq1, hr2⟩ := Prod.mk.inj hr1
    clear hr1
    subst hq0
    subst hq1
    subst hr2
    have hP9 := hP.sub (ws' := [(h0, .inr (13, fs_3)), (qf67, .inl (cf67, 12000, .inl g903_0))]) [0, 1] rfl
    have hD9 := hD.sub (ws' := [(h0, .inr (13, fs_3)), (qf67, .inl (cf67, 12000, .inl g903_0))]) [0, 1] (by decide) rfl
    have hK9 := hK.sub (tys' := [(cf67, .int)]) [0] rfl
    exact W.vret hx hb hr (fun t ht hW => ⟨⟨(fs_3), rfl, ⟨trivial, hlfs_3, hrs_4, hfs_3_68, hfs_3_70⟩, by rw [ht]; exact hP9, va_K.moved hW.alike hK9, hD9⟩, hS.F ht⟩) hS.2.2 dX13_store_35
  · rw [if_neg c_1] at hsp
    refine lv_bipush (v := 54) hx hb dX13_store_6 (by decide) ?_
    refine lv_goto (tgt := 13) hx hb dX13_store_8 (by decide) ?_
    obtain ⟨⟨g904_0, u4_1⟩, hu_4, hsp⟩ := ox_bind hsp
    try dsimp only at hsp
    have hPc := hP.sub (ws' := [(h0, .inr (13, zs)), (qf67, .inl (cf67, 12000, .inl f67))]) [0, 1] rfl
    have hDc := hD.sub (ws' := [(h0, .inr (13, zs)), (qf67, .inl (cf67, 12000, .inl f67))]) [0, 1] (by decide) rfl
    have hKc := hK.sub (tys' := [(cf67, .int)]) [0] rfl
    have hFc := va_free (wc := [(h0, .inr (13, zs)), (qf67, .inl (cf67, 12000, .inl f67))]) hD hS hA [0, 1] rfl
    refine va_callv (va_runV (As := [.int 54]) (rest := []) ⟨hx, hb, hml, hown, hts⟩ (tm_put l dC dI H.size h0 zs 54 qf67 v68 cf67 f67 nf g904_0 u4_1 hlen hf67 hf68 hu_4) (cwV 1 hts gv_h5_6 rfl rfl rfl (by decide +kernel) ⟨Nat.le_of_ble_eq_true rfl, Nat.le_of_ble_eq_true rfl⟩) ⟨fun a U g mk q => by obtain ⟨q0, q1, qP, qK, qD⟩ := q; exact ⟨q0, q1, qP, va_K.moved (u := U) (U := U.calling g mk a) (Vm.Alike.refl U.vm) qK, qD⟩, va_recv hKc hPc (ci := 13) (q0 := 0) rfl rfl, fun U hU hW => ⟨rfl, by rw [hU], by rw [hU]; exact hPc, va_K.moved hW.alike hKc, hDc.weaken (fun _ _ _ _ => trivial)⟩⟩ rfl rfl hl.1 rfl (lv_room (Nat.le_of_ble_eq_true rfl)) dX13_store_13 ⟨Nat.le_of_ble_eq_true rfl, Nat.le_of_ble_eq_true rfl⟩) hS (fun q _ h => hFc q h) hFc ?_
    clear hS
    intro u t H1 locs ht hvm hw hB hz1 hk1 hS
    obtain ⟨z_4, rfl⟩ : ∃ z, z = u := ⟨_, rfl⟩
    obtain ⟨hP1, hK1, hD1⟩ := hB
    rw [ht] at hP1
    have hK1 := va_K.moved hvm.symm hK1
    try dsimp only at hw
    have hPD := va_join (wr := []) (w1 := [(h0, .inr (13, z_4)), (qf67, .inl (cf67, 12000, .inl g904_0))]) hP hD [0, 1] [] rfl rfl (by decide) (by decide) hk1 hFc hP1 hD1
    clear hP hD
    obtain ⟨hP, hD⟩ := hPD
    replace hK := (hK.sub (tys' := []) [] rfl).app hK1
    clear hPc hDc hKc hFc hP1 hK1 hD1 hz1 hk1 ht hvm
    generalize H1 = H at hP hS ⊢
    replace hP : va_P (dC, dI) vwCl [(h0, .inr (13, z_4)), (qf67, .inl (cf67, 12000, .inl g904_0))] H := hP
    replace hD : va_D A [(h0, .inr (13, z_4)), (qf67, .inl (cf67, 12000, .inl g904_0))] := hD
    replace hK : va_K (dC, dI) vwCl [(cf67, .int)] s := hK
    obtain ⟨hwa_4, hln_4, hre_4, hch_4_68⟩ := hw
    have hfk_4_53 : z_4[53]? = some (.int v53) := (hre_4 53 (by decide)).trans (hf53)
    have hfk_4_67 : z_4[67]? = some (.ref qf67) := (hre_4 67 (by decide)).trans (hf67)
    have hfk_4_70 : z_4[70]? = some (.int v70) := (hre_4 70 (by decide)).trans (hf70)
    have hrq_4 : ∀ j : Nat, j ≠ 68 → j ≠ 70 → z_4[j]? = zs[j]? := fun j g68 g70 => (hre_4 j g68).trans (hrs0 j g68 g70)
    refine lv_aload_n hx hb dX13_store_16 rfl (lv_at hl 0 rfl) ?_
    refine lv_aload_n hx hb dX13_store_17 rfl (lv_at hl 0 rfl) ?_
    refine lv_iload_n hx hb dX13_store_18 rfl (lv_at hl 2 rfl) ?_
    obtain ⟨u5_0, hu_5, hsp⟩ := ox_bind hsp
    try dsimp only at hsp
    have hPc := hP.sub (ws' := [(h0, .inr (13, z_4))]) [0] rfl
    have hDc := hD.sub (ws' := [(h0, .inr (13, z_4))]) [0] (by decide) rfl
    have hKc := hK.sub (tys' := []) [] rfl
    have hFc := va_free (wc := [(h0, .inr (13, z_4))]) hD hS hA [0] rfl
    refine va_calli (va_runV (As := [.int a2]) (rest := [.ref h0]) ⟨hx, hb, hml, hown, hts⟩ (tm_local l dC dI H.size h0 z_4 a2 v53 nf u5_0 hln_4 hfk_4_53 hu_5) (cwV 1 hts gv_h5_8 rfl rfl rfl (by decide +kernel) ⟨Nat.le_of_ble_eq_true rfl, Nat.le_of_ble_eq_true rfl⟩) ⟨fun a U g mk q => by obtain ⟨q0, q1, qP, qK, qD⟩ := q; exact ⟨q0, q1, qP, va_K.moved (u := U) (U := U.calling g mk a) (Vm.Alike.refl U.vm) qK, qD⟩, va_recv hKc hPc (ci := 13) (q0 := 0) rfl rfl, fun U hU hW => ⟨rfl, by rw [hU], by rw [hU]; exact hPc, va_K.moved hW.alike hKc, hDc.weaken (fun _ _ _ _ => trivial)⟩⟩ rfl rfl hl.1 rfl (lv_room (Nat.le_of_ble_eq_true rfl)) dX13_store_19 ⟨Nat.le_of_ble_eq_true rfl, Nat.le_of_ble_eq_true rfl⟩) hS (fun q _ h => hFc q h) hFc ?_
    clear hS
    intro r_5 u t H1 locs ht hvm hw hB hz1 hk1 hS
    obtain ⟨z_5, rfl⟩ : ∃ z, z = u := ⟨_, rfl⟩
    obtain ⟨hP1, hK1, hD1⟩ := hB
    rw [ht] at hP1
    have hK1 := va_K.moved hvm.symm hK1
    try dsimp only at hw
    have hPD := va_join (wr := [(qf67, .inl (cf67, 12000, .inl g904_0))]) (w1 := [(h0, .inr (13, z_5))]) hP hD [0] [1] rfl rfl (by decide) (by decide) hk1 hFc hP1 hD1
    clear hP hD
    obtain ⟨hP, hD⟩ := hPD
    replace hK := (hK.sub (tys' := [(cf67, .int)]) [0] rfl).app hK1
    clear hPc hDc hKc hFc hP1 hK1 hD1 hz1 hk1 ht hvm
    generalize H1 = H at hP hS ⊢
    replace hP : va_P (dC, dI) vwCl [(qf67, .inl (cf67, 12000, .inl g904_0)), (h0, .inr (13, z_5))] H := hP
    replace hD : va_D A [(qf67, .inl (cf67, 12000, .inl g904_0)), (h0, .inr (13, z_5))] := hD
    replace hK : va_K (dC, dI) vwCl [(cf67, .int)] s := hK
    obtain ⟨hwa_5, hln_5, hre_5⟩ := hw
    have hfk_5_53 : z_5[53]? = some (.int v53) := (hre_5 53 ).trans (hfk_4_53)
    have hfk_5_67 : z_5[67]? = some (.ref qf67) := (hre_5 67 ).trans (hfk_4_67)
    have hfk_5_68 : z_5[68]? = some (.int u4_1) := (hre_5 68 ).trans (hch_4_68)
    have hfk_5_70 : z_5[70]? = some (.int v70) := (hre_5 70 ).trans (hfk_4_70)
    have hrq_5 : ∀ j : Nat, j ≠ 68 → j ≠ 70 → z_5[j]? = zs[j]? := fun j g68 g70 => (hre_5 j ).trans (hrq_4 j g68 g70)
    obtain rfl := hwa_5
    obtain ⟨⟨g906_0, u6_1⟩, hu_6, hsp⟩ := ox_bind hsp
    try dsimp only at hsp
    have hPc := hP.sub (ws' := [(h0, .inr (13, z_5)), (qf67, .inl (cf67, 12000, .inl g904_0))]) [1, 0] rfl
    have hDc := hD.sub (ws' := [(h0, .inr (13, z_5)), (qf67, .inl (cf67, 12000, .inl g904_0))]) [1, 0] (by decide) rfl
    have hKc := hK.sub (tys' := [(cf67, .int)]) [0] rfl
    have hFc := va_free (wc := [(h0, .inr (13, z_5)), (qf67, .inl (cf67, 12000, .inl g904_0))]) hD hS hA [1, 0] rfl
    refine va_callv (va_runV (As := [.int u5_0]) (rest := []) ⟨hx, hb, hml, hown, hts⟩ (tm_put l dC dI H.size h0 z_5 u5_0 qf67 u4_1 cf67 g904_0 nf g906_0 u6_1 hln_5 hfk_5_67 hfk_5_68 hu_6) (cwV 1 hts gv_h5_6 rfl rfl rfl (by decide +kernel) ⟨Nat.le_of_ble_eq_true rfl, Nat.le_of_ble_eq_true rfl⟩) ⟨fun a U g mk q => by obtain ⟨q0, q1, qP, qK, qD⟩ := q; exact ⟨q0, q1, qP, va_K.moved (u := U) (U := U.calling g mk a) (Vm.Alike.refl U.vm) qK, qD⟩, va_recv hKc hPc (ci := 13) (q0 := 0) rfl rfl, fun U hU hW => ⟨rfl, by rw [hU], by rw [hU]; exact hPc, va_K.moved hW.alike hKc, hDc.weaken (fun _ _ _ _ => trivial)⟩⟩ rfl rfl hl.1 rfl (lv_room (Nat.le_of_ble_eq_true rfl)) dX13_store_22 ⟨Nat.le_of_ble_eq_true rfl, Nat.le_of_ble_eq_true rfl⟩) hS (fun q _ h => hFc q h) hFc ?_
    clear hS
    intro u t H1 locs ht hvm hw hB hz1 hk1 hS
    obtain ⟨z_6, rfl⟩ : ∃ z, z = u := ⟨_, rfl⟩
    obtain ⟨hP1, hK1, hD1⟩ := hB
    rw [ht] at hP1
    have hK1 := va_K.moved hvm.symm hK1
    try dsimp only at hw
    have hPD := va_join (wr := []) (w1 := [(h0, .inr (13, z_6)), (qf67, .inl (cf67, 12000, .inl g906_0))]) hP hD [1, 0] [] rfl rfl (by decide) (by decide) hk1 hFc hP1 hD1
    clear hP hD
    obtain ⟨hP, hD⟩ := hPD
    replace hK := (hK.sub (tys' := []) [] rfl).app hK1
    clear hPc hDc hKc hFc hP1 hK1 hD1 hz1 hk1 ht hvm
    generalize H1 = H at hP hS ⊢
    replace hP : va_P (dC, dI) vwCl [(h0, .inr (13, z_6)), (qf67, .inl (cf67, 12000, .inl g906_0))] H := hP
    replace hD : va_D A [(h0, .inr (13, z_6)), (qf67, .inl (cf67, 12000, .inl g906_0))] := hD
    replace hK : va_K (dC, dI) vwCl [(cf67, .int)] s := hK
    obtain ⟨hwa_6, hln_6, hre_6, hch_6_68⟩ := hw
    have hfk_6_53 : z_6[53]? = some (.int v53) := (hre_6 53 (by decide)).trans (hfk_5_53)
    have hfk_6_67 : z_6[67]? = some (.ref qf67) := (hre_6 67 (by decide)).trans (hfk_5_67)
    have hfk_6_70 : z_6[70]? = some (.int v70) := (hre_6 70 (by decide)).trans (hfk_5_70)
    have hrq_6 : ∀ j : Nat, j ≠ 68 → j ≠ 70 → z_6[j]? = zs[j]? := fun j g68 g70 => (hre_6 j g68).trans (hrq_5 j g68 g70)
    refine lv_aload_n hx hb dX13_store_25 rfl (lv_at hl 0 rfl) ?_
    refine lv_dup hx hb dX13_store_26 rfl ?_
    refine va_get (D := (dC, dI)) (ci := 13) (v := .int v70) (C := RX13) (T := TX13) (N := 155) hx hb hts uV_h5_X13 hown hK hP 0 rfl rfl 70 (by decide) (hts (.fieldLink RX13 629 "ClassMillModel" "piled" "I") mw_h5_47) (fun _ h9 => h9) hfk_6_70 dX13_store_27 ?_
    refine lv_iconst (v := 1) hx hb dX13_store_30 (by decide) ?_
    refine lv_isub hx hb dX13_store_31 ?_
    refine va_put (D := (dC, dI)) (ci := 13) (v := .int (v70 - 1)) (ty := .int) (C := RX13) (T := TX13) (N := 155) hx hb hts uV_h5_X13 tyX13 tyX13_ok nmX13 hown hK hP hD hS 0 rfl rfl 70 (by decide) (hts (.fieldLink RX13 629 "ClassMillModel" "piled" "I") mw_h5_47) (fun _ h9 => h9) rfl (by decide +kernel) rfl rfl (by rw [hln_6]; decide) dX13_store_32 ?_
    clear hP hD hS
    intro H locs hP hD hS
    obtain ⟨fs_6, efs_6⟩ : ∃ zf : List Value, zf = z_6.set 70 (.int (v70 - 1)) := ⟨_, rfl⟩
    rw [← efs_6] at hP hD
    have hlfs_6 : fs_6.length = 155 := by rw [efs_6, List.length_set]; exact hln_6
    have hfs_6_53 : fs_6[53]? = some (.int v53) := by rw [efs_6, List.getElem?_set_ne (by decide)]; exact hfk_6_53
    have hfs_6_67 : fs_6[67]? = some (.ref qf67) := by rw [efs_6, List.getElem?_set_ne (by decide)]; exact hfk_6_67
    have hfs_6_68 : fs_6[68]? = some (.int u6_1) := by rw [efs_6, List.getElem?_set_ne (by decide)]; exact hch_6_68
    have hfs_6_70 : fs_6[70]? = some (.int (v70 - 1)) := by rw [efs_6, List.getElem?_set_self (by rw [hln_6]; decide)]
    replace hP : va_P (dC, dI) vwCl [(h0, .inr (13, fs_6)), (qf67, .inl (cf67, 12000, .inl g906_0))] H := hP
    replace hD : va_D A [(h0, .inr (13, fs_6)), (qf67, .inl (cf67, 12000, .inl g906_0))] := hD
    have hrs_7 : ∀ j : Nat, j ≠ 68 → j ≠ 70 → fs_6[j]? = zs[j]? := fun j g68 g70 => ((congrArg (fun z : List Value => z[j]?) efs_6).trans (List.getElem?_set_ne (Ne.symm g70))).trans (hrq_6 j g68 g70)
    have hr0 := Option.some.inj hsp
    clear hsp
    obtain ⟨hq0, hr1⟩ := Prod.mk.inj hr0
    clear hr0
    obtain ⟨hq1, hr2⟩ := Prod.mk.inj hr1
    clear hr1
    subst hq0
    subst hq1
    subst hr2
    have hP9 := hP.sub (ws' := [(h0, .inr (13, fs_6)), (qf67, .inl (cf67, 12000, .inl g906_0))]) [0, 1] rfl
    have hD9 := hD.sub (ws' := [(h0, .inr (13, fs_6)), (qf67, .inl (cf67, 12000, .inl g906_0))]) [0, 1] (by decide) rfl
    have hK9 := hK.sub (tys' := [(cf67, .int)]) [0] rfl
    exact W.vret hx hb hr (fun t ht hW => ⟨⟨(fs_6), rfl, ⟨trivial, hlfs_6, hrs_7, hfs_6_68, hfs_6_70⟩, by rw [ht]; exact hP9, va_K.moved hW.alike hK9, hD9⟩, hS.F ht⟩) hS.2.2 dX13_store_35
def sp_tm_self (nf : Nat) (v52 : Int32) (v68 : Int32) (v70 : Int32) (v71 : Int32) (f67 : Nat → Int32) (f69 : Nat → Int32) : Option ((Nat → Int32) × (Nat → Int32) × Int32 × Int32 × Int32) := ((sp_tm_put nf 25 v68 f67).bind (fun p1 => ((sp_tm_put nf 0 p1.2 p1.1).bind (fun p2 => ((sp_tm_push nf (8 + (2 * v52)) v70 v71 f69).bind (fun p3 => (some (p2.1, p3.1, p2.2, p3.2.1, p3.2.2))))))))
set_option maxHeartbeats 4000000 in
set_option maxRecDepth 100000 in
/-- ClassMillModel.self -/
theorem tm_self (l : Launch) (dC : Nat → ClassId) (dI : Nat → Nat → Nat) (sz : Nat) (h0 : Nat) (zs : (List Value)) (v52 : Int32) (qf67 : Nat) (v68 : Int32) (qf69 : Nat) (v70 : Int32) (v71 : Int32) (cf67 : ClassId) (f67 : (Nat → Int32)) (cf69 : ClassId) (f69 : (Nat → Int32)) (nf : Nat) (o67 : (Nat → Int32)) (o69 : (Nat → Int32)) (w68 : Int32) (w70 : Int32) (w71 : Int32) (hlen : zs.length = 155) (hf52 : zs[52]? = some (.int v52)) (hf67 : zs[67]? = some (.ref qf67)) (hf68 : zs[68]? = some (.int v68)) (hf69 : zs[69]? = some (.ref qf69)) (hf70 : zs[70]? = some (.int v70)) (hf71 : zs[71]? = some (.int v71)) (hsp : sp_tm_self nf v52 v68 v70 v71 f67 f69 = some (o67, o69, w68, w70, w71)) : Met l yX13_self (.code yX13_self cX13_self 1 none :: VS_h5) ({ frames := 2, cells := 0, slots := 0, locals := 36 }) (va_Pc [.ref h0] (fun U => U.heap.size = sz ∧ va_P (dC, dI) vwCl [(h0, .inr (13, zs)), (qf67, .inl (cf67, 12000, .inl f67)), (qf69, .inl (cf69, 3000, .inl f69))] U.heap ∧ va_K (dC, dI) vwCl [(cf67, .int), (cf69, .int)] U ∧ va_D (fun _ => True) [(h0, .inr (13, zs)), (qf67, .inl (cf67, 12000, .inl f67)), (qf69, .inl (cf69, 3000, .inl f69))])) (va_Qv (fun (u : (List Value)) => match u with | (zo1) => True ∧ zo1.length = 155 ∧ (∀ j : Nat, j ≠ 68 → j ≠ 70 → j ≠ 71 → zo1[j]? = zs[j]?) ∧ zo1[68]? = some (.int w68) ∧ zo1[70]? = some (.int w70) ∧ zo1[71]? = some (.int w71)) (fun (u : (List Value)) (t : State) => match u with | (zo1) => va_P (dC, dI) vwCl [(h0, .inr (13, zo1)), (qf67, .inl (cf67, 12000, .inl o67)), (qf69, .inl (cf69, 3000, .inl o69))] t.heap ∧ va_K (dC, dI) vwCl [(cf67, .int), (cf69, .int)] t ∧ va_D (va_A [(h0, .inr (13, zs)), (qf67, .inl (cf67, 12000, .inl f67)), (qf69, .inl (cf69, 3000, .inl f69))] sz) [(h0, .inr (13, zo1)), (qf67, .inl (cf67, 12000, .inl o67)), (qf69, .inl (cf69, 3000, .inl o69))]) (va_A [(h0, .inr (13, zs)), (qf67, .inl (cf67, 12000, .inl f67)), (qf69, .inl (cf69, 3000, .inl f69))] sz)) 0 0 (va_A [(h0, .inr (13, zs)), (qf67, .inl (cf67, 12000, .inl f67)), (qf69, .inl (cf69, 3000, .inl f69))] sz) := by
  refine Met.ofW (cc := cX13_self) (maxL := 1) (ret := none) (by decide) rfl ?_
  intro p e s m args below meth c s₁ B hml hv
  obtain ⟨rfl, hsz, hP, hK, hD0⟩ := hv
  have hx := B.exec
  have hb := B.bytes
  have hr := B.returns
  have hts := atoms_spec (ws := (.code yX13_self cX13_self 1 none :: VS_h5)) B.pre
  replace hts := fun w (h : w ∈ VS_h5) => hts w (List.mem_cons_of_mem _ h)
  have hown : s.vm.findClass RX13 = some m.cls := findClass_of_methodNamed B.named
  have hlocks := B.notSynchronized
  subst hsz
  have hD := hD0.self (sz := s.heap.size)
  generalize hAe : va_A [(h0, .inr (13, zs)), (qf67, .inl (cf67, 12000, .inl f67)), (qf69, .inl (cf69, 3000, .inl f69))] s.heap.size = A at hD  ⊢
  have hA : ∀ q : Nat, s.heap.size ≤ q → A q := fun q h => by rw [← hAe]; exact Or.inr h
  have hP : va_P (dC, dI) vwCl [(h0, .inr (13, zs)), (qf67, .inl (cf67, 12000, .inl f67)), (qf69, .inl (cf69, 3000, .inl f69))] s.heap := hP
  have hl := lv_entry ([.ref h0]) (n := 1) (Nat.le_of_ble_eq_true rfl)
  rw [lg_entry_eq]
  generalize (lg_sl ([.ref h0]) ++ List.replicate (1 - (lg_sl ([.ref h0])).length) Slot.unset).toArray = ls at hl ⊢
  have hl : lv_has ls 1 [(0, .ref h0)] := hl
  obtain ⟨H, hH⟩ : ∃ H : Heap, s.heap = H := ⟨_, rfl⟩
  rw [hH] at hP ⊢
  have hS : va_S A s.heap H [] := by rw [← hH]; exact va_S.rf
  obtain ⟨locs, hlo⟩ : ∃ locs : List Loc, locs = [] := ⟨_, rfl⟩
  rw [← hlo] at hS ⊢
  have hrs0 : ∀ j : Nat, j ≠ 68 → j ≠ 70 → j ≠ 71 → zs[j]? = zs[j]? := fun _ _ _ _  => rfl
  unfold sp_tm_self at hsp
  refine lv_aload_n hx hb dX13_self_0 rfl (lv_at hl 0 rfl) ?_
  refine lv_bipush (v := 25) hx hb dX13_self_1 (by decide) ?_
  obtain ⟨⟨g901_0, u1_1⟩, hu_1, hsp⟩ := ox_bind hsp
  try dsimp only at hsp
  have hPc := hP.sub (ws' := [(h0, .inr (13, zs)), (qf67, .inl (cf67, 12000, .inl f67))]) [0, 1] rfl
  have hDc := hD.sub (ws' := [(h0, .inr (13, zs)), (qf67, .inl (cf67, 12000, .inl f67))]) [0, 1] (by decide) rfl
  have hKc := hK.sub (tys' := [(cf67, .int)]) [0] rfl
  have hFc := va_free (wc := [(h0, .inr (13, zs)), (qf67, .inl (cf67, 12000, .inl f67))]) hD hS hA [0, 1] rfl
  refine va_callv (va_runV (As := [.int 25]) (rest := []) ⟨hx, hb, hml, hown, hts⟩ (tm_put l dC dI H.size h0 zs 25 qf67 v68 cf67 f67 nf g901_0 u1_1 hlen hf67 hf68 hu_1) (cwV 1 hts gv_h5_6 rfl rfl rfl (by decide +kernel) ⟨Nat.le_of_ble_eq_true rfl, Nat.le_of_ble_eq_true rfl⟩) ⟨fun a U g mk q => by obtain ⟨q0, q1, qP, qK, qD⟩ := q; exact ⟨q0, q1, qP, va_K.moved (u := U) (U := U.calling g mk a) (Vm.Alike.refl U.vm) qK, qD⟩, va_recv hKc hPc (ci := 13) (q0 := 0) rfl rfl, fun U hU hW => ⟨rfl, by rw [hU], by rw [hU]; exact hPc, va_K.moved hW.alike hKc, hDc.weaken (fun _ _ _ _ => trivial)⟩⟩ rfl rfl hl.1 rfl (lv_room (Nat.le_of_ble_eq_true rfl)) dX13_self_3 ⟨Nat.le_of_ble_eq_true rfl, Nat.le_of_ble_eq_true rfl⟩) hS (fun q _ h => hFc q h) hFc ?_
  clear hS
  intro u t H1 locs ht hvm hw hB hz1 hk1 hS
  obtain ⟨z_1, rfl⟩ : ∃ z, z = u := ⟨_, rfl⟩
  obtain ⟨hP1, hK1, hD1⟩ := hB
  rw [ht] at hP1
  have hK1 := va_K.moved hvm.symm hK1
  try dsimp only at hw
  have hPD := va_join (wr := [(qf69, .inl (cf69, 3000, .inl f69))]) (w1 := [(h0, .inr (13, z_1)), (qf67, .inl (cf67, 12000, .inl g901_0))]) hP hD [0, 1] [2] rfl rfl (by decide) (by decide) hk1 hFc hP1 hD1
  clear hP hD
  obtain ⟨hP, hD⟩ := hPD
  replace hK := (hK.sub (tys' := [(cf69, .int)]) [1] rfl).app hK1
  clear hPc hDc hKc hFc hP1 hK1 hD1 hz1 hk1 ht hvm
  generalize H1 = H at hP hS ⊢
  replace hP : va_P (dC, dI) vwCl [(qf69, .inl (cf69, 3000, .inl f69)), (h0, .inr (13, z_1)), (qf67, .inl (cf67, 12000, .inl g901_0))] H := hP
  replace hD : va_D A [(qf69, .inl (cf69, 3000, .inl f69)), (h0, .inr (13, z_1)), (qf67, .inl (cf67, 12000, .inl g901_0))] := hD
  replace hK : va_K (dC, dI) vwCl [(cf69, .int), (cf67, .int)] s := hK
  obtain ⟨hwa_1, hln_1, hre_1, hch_1_68⟩ := hw
  have hfk_1_52 : z_1[52]? = some (.int v52) := (hre_1 52 (by decide)).trans (hf52)
  have hfk_1_67 : z_1[67]? = some (.ref qf67) := (hre_1 67 (by decide)).trans (hf67)
  have hfk_1_69 : z_1[69]? = some (.ref qf69) := (hre_1 69 (by decide)).trans (hf69)
  have hfk_1_70 : z_1[70]? = some (.int v70) := (hre_1 70 (by decide)).trans (hf70)
  have hfk_1_71 : z_1[71]? = some (.int v71) := (hre_1 71 (by decide)).trans (hf71)
  have hrq_1 : ∀ j : Nat, j ≠ 68 → j ≠ 70 → j ≠ 71 → z_1[j]? = zs[j]? := fun j g68 g70 g71 => (hre_1 j g68).trans (hrs0 j g68 g70 g71)
  refine lv_aload_n hx hb dX13_self_6 rfl (lv_at hl 0 rfl) ?_
  refine lv_iconst (v := 0) hx hb dX13_self_7 (by decide) ?_
  obtain ⟨⟨g902_0, u2_1⟩, hu_2, hsp⟩ := ox_bind hsp
  try dsimp only at hsp
  have hPc := hP.sub (ws' := [(h0, .inr (13, z_1)), (qf67, .inl (cf67, 12000, .inl g901_0))]) [1, 2] rfl
  have hDc := hD.sub (ws' := [(h0, .inr (13, z_1)), (qf67, .inl (cf67, 12000, .inl g901_0))]) [1, 2] (by decide) rfl
  have hKc := hK.sub (tys' := [(cf67, .int)]) [1] rfl
  have hFc := va_free (wc := [(h0, .inr (13, z_1)), (qf67, .inl (cf67, 12000, .inl g901_0))]) hD hS hA [1, 2] rfl
  refine va_callv (va_runV (As := [.int 0]) (rest := []) ⟨hx, hb, hml, hown, hts⟩ (tm_put l dC dI H.size h0 z_1 0 qf67 u1_1 cf67 g901_0 nf g902_0 u2_1 hln_1 hfk_1_67 hch_1_68 hu_2) (cwV 1 hts gv_h5_6 rfl rfl rfl (by decide +kernel) ⟨Nat.le_of_ble_eq_true rfl, Nat.le_of_ble_eq_true rfl⟩) ⟨fun a U g mk q => by obtain ⟨q0, q1, qP, qK, qD⟩ := q; exact ⟨q0, q1, qP, va_K.moved (u := U) (U := U.calling g mk a) (Vm.Alike.refl U.vm) qK, qD⟩, va_recv hKc hPc (ci := 13) (q0 := 0) rfl rfl, fun U hU hW => ⟨rfl, by rw [hU], by rw [hU]; exact hPc, va_K.moved hW.alike hKc, hDc.weaken (fun _ _ _ _ => trivial)⟩⟩ rfl rfl hl.1 rfl (lv_room (Nat.le_of_ble_eq_true rfl)) dX13_self_8 ⟨Nat.le_of_ble_eq_true rfl, Nat.le_of_ble_eq_true rfl⟩) hS (fun q _ h => hFc q h) hFc ?_
  clear hS
  intro u t H1 locs ht hvm hw hB hz1 hk1 hS
  obtain ⟨z_2, rfl⟩ : ∃ z, z = u := ⟨_, rfl⟩
  obtain ⟨hP1, hK1, hD1⟩ := hB
  rw [ht] at hP1
  have hK1 := va_K.moved hvm.symm hK1
  try dsimp only at hw
  have hPD := va_join (wr := [(qf69, .inl (cf69, 3000, .inl f69))]) (w1 := [(h0, .inr (13, z_2)), (qf67, .inl (cf67, 12000, .inl g902_0))]) hP hD [1, 2] [0] rfl rfl (by decide) (by decide) hk1 hFc hP1 hD1
  clear hP hD
  obtain ⟨hP, hD⟩ := hPD
  replace hK := (hK.sub (tys' := [(cf69, .int)]) [0] rfl).app hK1
  clear hPc hDc hKc hFc hP1 hK1 hD1 hz1 hk1 ht hvm
  generalize H1 = H at hP hS ⊢
  replace hP : va_P (dC, dI) vwCl [(qf69, .inl (cf69, 3000, .inl f69)), (h0, .inr (13, z_2)), (qf67, .inl (cf67, 12000, .inl g902_0))] H := hP
  replace hD : va_D A [(qf69, .inl (cf69, 3000, .inl f69)), (h0, .inr (13, z_2)), (qf67, .inl (cf67, 12000, .inl g902_0))] := hD
  replace hK : va_K (dC, dI) vwCl [(cf69, .int), (cf67, .int)] s := hK
  obtain ⟨hwa_2, hln_2, hre_2, hch_2_68⟩ := hw
  have hfk_2_52 : z_2[52]? = some (.int v52) := (hre_2 52 (by decide)).trans (hfk_1_52)
  have hfk_2_67 : z_2[67]? = some (.ref qf67) := (hre_2 67 (by decide)).trans (hfk_1_67)
  have hfk_2_69 : z_2[69]? = some (.ref qf69) := (hre_2 69 (by decide)).trans (hfk_1_69)
  have hfk_2_70 : z_2[70]? = some (.int v70) := (hre_2 70 (by decide)).trans (hfk_1_70)
  have hfk_2_71 : z_2[71]? = some (.int v71) := (hre_2 71 (by decide)).trans (hfk_1_71)
  have hrq_2 : ∀ j : Nat, j ≠ 68 → j ≠ 70 → j ≠ 71 → z_2[j]? = zs[j]? := fun j g68 g70 g71 => (hre_2 j g68).trans (hrq_1 j g68 g70 g71)
  refine lv_aload_n hx hb dX13_self_11 rfl (lv_at hl 0 rfl) ?_
  refine lv_bipush (v := 8) hx hb dX13_self_12 (by decide) ?_
  refine lv_iconst (v := 2) hx hb dX13_self_14 (by decide) ?_
  refine lv_aload_n hx hb dX13_self_15 rfl (lv_at hl 0 rfl) ?_
  refine va_get (D := (dC, dI)) (ci := 13) (v := .int v52) (C := RX13) (T := TX13) (N := 155) hx hb hts uV_h5_X13 hown hK hP 1 rfl rfl 52 (by decide) (hts (.fieldLink RX13 519 "ClassMillModel" "owner" "I") mw_h5_74) (fun _ h9 => h9) hfk_2_52 dX13_self_16 ?_
  refine lv_imul hx hb dX13_self_19 ?_
  refine lv_iadd hx hb dX13_self_20 ?_
  obtain ⟨⟨g903_0, u3_1, u3_2⟩, hu_3, hsp⟩ := ox_bind hsp
  try dsimp only at hsp
  have hPc := hP.sub (ws' := [(h0, .inr (13, z_2)), (qf69, .inl (cf69, 3000, .inl f69))]) [1, 0] rfl
  have hDc := hD.sub (ws' := [(h0, .inr (13, z_2)), (qf69, .inl (cf69, 3000, .inl f69))]) [1, 0] (by decide) rfl
  have hKc := hK.sub (tys' := [(cf69, .int)]) [0] rfl
  have hFc := va_free (wc := [(h0, .inr (13, z_2)), (qf69, .inl (cf69, 3000, .inl f69))]) hD hS hA [1, 0] rfl
  refine va_callv (va_runV (As := [.int (8 + (2 * v52))]) (rest := []) ⟨hx, hb, hml, hown, hts⟩ (tm_push l dC dI H.size h0 z_2 ((8 + (2 * v52))) qf69 v70 v71 cf69 f69 nf g903_0 u3_1 u3_2 hln_2 hfk_2_69 hfk_2_70 hfk_2_71 hu_3) (cwV 1 hts gv_h5_5 rfl rfl rfl (by decide +kernel) ⟨Nat.le_of_ble_eq_true rfl, Nat.le_of_ble_eq_true rfl⟩) ⟨fun a U g mk q => by obtain ⟨q0, q1, qP, qK, qD⟩ := q; exact ⟨q0, q1, qP, va_K.moved (u := U) (U := U.calling g mk a) (Vm.Alike.refl U.vm) qK, qD⟩, va_recv hKc hPc (ci := 13) (q0 := 0) rfl rfl, fun U hU hW => ⟨rfl, by rw [hU], by rw [hU]; exact hPc, va_K.moved hW.alike hKc, hDc.weaken (fun _ _ _ _ => trivial)⟩⟩ rfl rfl hl.1 rfl (lv_room (Nat.le_of_ble_eq_true rfl)) dX13_self_21 ⟨Nat.le_of_ble_eq_true rfl, Nat.le_of_ble_eq_true rfl⟩) hS (fun q _ h => hFc q h) hFc ?_
  clear hS
  intro u t H1 locs ht hvm hw hB hz1 hk1 hS
  obtain ⟨z_3, rfl⟩ : ∃ z, z = u := ⟨_, rfl⟩
  obtain ⟨hP1, hK1, hD1⟩ := hB
  rw [ht] at hP1
  have hK1 := va_K.moved hvm.symm hK1
  try dsimp only at hw
  have hPD := va_join (wr := [(qf67, .inl (cf67, 12000, .inl g902_0))]) (w1 := [(h0, .inr (13, z_3)), (qf69, .inl (cf69, 3000, .inl g903_0))]) hP hD [1, 0] [2] rfl rfl (by decide) (by decide) hk1 hFc hP1 hD1
  clear hP hD
  obtain ⟨hP, hD⟩ := hPD
  replace hK := (hK.sub (tys' := [(cf67, .int)]) [1] rfl).app hK1
  clear hPc hDc hKc hFc hP1 hK1 hD1 hz1 hk1 ht hvm
  generalize H1 = H at hP hS ⊢
  replace hP : va_P (dC, dI) vwCl [(qf67, .inl (cf67, 12000, .inl g902_0)), (h0, .inr (13, z_3)), (qf69, .inl (cf69, 3000, .inl g903_0))] H := hP
  replace hD : va_D A [(qf67, .inl (cf67, 12000, .inl g902_0)), (h0, .inr (13, z_3)), (qf69, .inl (cf69, 3000, .inl g903_0))] := hD
  replace hK : va_K (dC, dI) vwCl [(cf67, .int), (cf69, .int)] s := hK
  obtain ⟨hwa_3, hln_3, hre_3, hch_3_70, hch_3_71⟩ := hw
  have hfk_3_52 : z_3[52]? = some (.int v52) := (hre_3 52 (by decide) (by decide)).trans (hfk_2_52)
  have hfk_3_67 : z_3[67]? = some (.ref qf67) := (hre_3 67 (by decide) (by decide)).trans (hfk_2_67)
  have hfk_3_68 : z_3[68]? = some (.int u2_1) := (hre_3 68 (by decide) (by decide)).trans (hch_2_68)
  have hfk_3_69 : z_3[69]? = some (.ref qf69) := (hre_3 69 (by decide) (by decide)).trans (hfk_2_69)
  have hrq_3 : ∀ j : Nat, j ≠ 68 → j ≠ 70 → j ≠ 71 → z_3[j]? = zs[j]? := fun j g68 g70 g71 => (hre_3 j g70 g71).trans (hrq_2 j g68 g70 g71)
  have hr0 := Option.some.inj hsp
  clear hsp
  obtain ⟨hq0, hr1⟩ := Prod.mk.inj hr0
  clear hr0
  obtain ⟨hq1, hr2⟩ := Prod.mk.inj hr1
  clear hr1
  obtain ⟨hq2, hr3⟩ := Prod.mk.inj hr2
  clear hr2
  obtain ⟨hq3, hr4⟩ := Prod.mk.inj hr3
  clear hr3
  subst hq0
  subst hq1
  subst hq2
  subst hq3
  subst hr4
  have hP9 := hP.sub (ws' := [(h0, .inr (13, z_3)), (qf67, .inl (cf67, 12000, .inl g902_0)), (qf69, .inl (cf69, 3000, .inl g903_0))]) [1, 0, 2] rfl
  have hD9 := hD.sub (ws' := [(h0, .inr (13, z_3)), (qf67, .inl (cf67, 12000, .inl g902_0)), (qf69, .inl (cf69, 3000, .inl g903_0))]) [1, 0, 2] (by decide) rfl
  have hK9 := hK.sub (tys' := [(cf67, .int), (cf69, .int)]) [0, 1] rfl
  exact W.vret hx hb hr (fun t ht hW => ⟨⟨(z_3), rfl, ⟨trivial, hln_3, hrq_3, hfk_3_68, hch_3_70, hch_3_71⟩, by rw [ht]; exact hP9, va_K.moved hW.alike hK9, hD9⟩, hS.F ht⟩) hS.2.2 dX13_self_24
def sp_tm_isLedInWords (nf : Nat) (a1 : Int32) (f11 : Nat → Int32) (f20 : Nat → Int32) : Option (Int32) := (if a1 < 0 then none else if 9000 ≤ (a1 : Int32).toNatClampNeg then none else (if (f11 (a1 : Int32).toNatClampNeg) = 37 then (some 1) else (if (f11 (a1 : Int32).toNatClampNeg) = 38 then (some 1) else (if (f11 (a1 : Int32).toNatClampNeg) = 30 then (some 1) else (if (f11 (a1 : Int32).toNatClampNeg) = 32 then (some 1) else (if (f11 (a1 : Int32).toNatClampNeg) = 31 then (if a1 < 0 then none else if 9000 ≤ (a1 : Int32).toNatClampNeg then none else (if (f20 (a1 : Int32).toNatClampNeg) = (-1) then (some 1) else (some 0))) else (some 0)))))))
set_option maxHeartbeats 4000000 in
set_option maxRecDepth 100000 in
/-- ClassMillModel.isLedInWords -/
theorem tm_isLedInWords (l : Launch) (dC : Nat → ClassId) (dI : Nat → Nat → Nat) (sz : Nat) (h0 : Nat) (zs : (List Value)) (a1 : Int32) (qf11 : Nat) (qf20 : Nat) (cf11 : ClassId) (f11 : (Nat → Int32)) (cf20 : ClassId) (f20 : (Nat → Int32)) (nf : Nat) (r0 : Int32) (hlen : zs.length = 155) (hf11 : zs[11]? = some (.ref qf11)) (hf20 : zs[20]? = some (.ref qf20)) (hsp : sp_tm_isLedInWords nf a1 f11 f20 = some r0) : Met l yX13_isLedInWords (.code yX13_isLedInWords cX13_isLedInWords 3 (some .boolean) :: VS_h5) ({ frames := 0, cells := 0, slots := 0, locals := 0 }) (va_Pc [.ref h0, .int a1] (fun U => U.heap.size = sz ∧ va_P (dC, dI) vwCl [(h0, .inr (13, zs)), (qf11, .inl (cf11, 9000, .inl f11)), (qf20, .inl (cf20, 9000, .inl f20))] U.heap ∧ va_K (dC, dI) vwCl [(cf11, .int), (cf20, .int)] U ∧ va_D (fun _ => True) [(h0, .inr (13, zs)), (qf11, .inl (cf11, 9000, .inl f11)), (qf20, .inl (cf20, 9000, .inl f20))])) (va_Qi (fun (r : Int32) (u : (List Value)) => match u with | (zo1) => (r0 = r ∧ (r0 = 0 ∨ r0 = 1)) ∧ zo1.length = 155 ∧ (∀ j : Nat, zo1[j]? = zs[j]?)) (fun (u : (List Value)) (t : State) => match u with | (zo1) => va_P (dC, dI) vwCl [(h0, .inr (13, zo1)), (qf11, .inl (cf11, 9000, .inl f11)), (qf20, .inl (cf20, 9000, .inl f20))] t.heap ∧ va_K (dC, dI) vwCl [(cf11, .int), (cf20, .int)] t ∧ va_D (va_A [(h0, .inr (13, zs)), (qf11, .inl (cf11, 9000, .inl f11)), (qf20, .inl (cf20, 9000, .inl f20))] sz) [(h0, .inr (13, zo1)), (qf11, .inl (cf11, 9000, .inl f11)), (qf20, .inl (cf20, 9000, .inl f20))]) (va_A [(h0, .inr (13, zs)), (qf11, .inl (cf11, 9000, .inl f11)), (qf20, .inl (cf20, 9000, .inl f20))] sz)) 0 0 (va_A [(h0, .inr (13, zs)), (qf11, .inl (cf11, 9000, .inl f11)), (qf20, .inl (cf20, 9000, .inl f20))] sz) := by
  refine Met.ofW (cc := cX13_isLedInWords) (maxL := 3) (ret := (some .boolean)) (by decide) rfl ?_
  intro p e s m args below meth c s₁ B hml hv
  obtain ⟨rfl, hsz, hP, hK, hD0⟩ := hv
  have hx := B.exec
  have hb := B.bytes
  have hr := B.returns
  have hts := atoms_spec (ws := (.code yX13_isLedInWords cX13_isLedInWords 3 (some .boolean) :: VS_h5)) B.pre
  replace hts := fun w (h : w ∈ VS_h5) => hts w (List.mem_cons_of_mem _ h)
  have hown : s.vm.findClass RX13 = some m.cls := findClass_of_methodNamed B.named
  have hlocks := B.notSynchronized
  subst hsz
  have hD := hD0.self (sz := s.heap.size)
  generalize hAe : va_A [(h0, .inr (13, zs)), (qf11, .inl (cf11, 9000, .inl f11)), (qf20, .inl (cf20, 9000, .inl f20))] s.heap.size = A at hD  ⊢
  have hA : ∀ q : Nat, s.heap.size ≤ q → A q := fun q h => by rw [← hAe]; exact Or.inr h
  have hP : va_P (dC, dI) vwCl [(h0, .inr (13, zs)), (qf11, .inl (cf11, 9000, .inl f11)), (qf20, .inl (cf20, 9000, .inl f20))] s.heap := hP
  have hl := lv_entry ([.ref h0, .int a1]) (n := 3) (Nat.le_of_ble_eq_true rfl)
  rw [lg_entry_eq]
  generalize (lg_sl ([.ref h0, .int a1]) ++ List.replicate (3 - (lg_sl ([.ref h0, .int a1])).length) Slot.unset).toArray = ls at hl ⊢
  have hl : lv_has ls 3 [(0, .ref h0), (1, .int a1)] := hl
  obtain ⟨H, hH⟩ : ∃ H : Heap, s.heap = H := ⟨_, rfl⟩
  rw [hH] at hP ⊢
  have hS : va_S A s.heap H [] := by rw [← hH]; exact va_S.rf
  obtain ⟨locs, hlo⟩ : ∃ locs : List Loc, locs = [] := ⟨_, rfl⟩
  rw [← hlo] at hS ⊢
  have hrs0 : ∀ j : Nat, zs[j]? = zs[j]? := fun _  => rfl
  unfold sp_tm_isLedInWords at hsp
  refine lv_aload_n hx hb dX13_isLedInWords_0 rfl (lv_at hl 0 rfl) ?_
  refine va_get (D := (dC, dI)) (ci := 13) (v := .ref qf11) (C := RX13) (T := TX13) (N := 155) hx hb hts uV_h5_X13 hown hK hP 0 rfl rfl 11 (by decide) (hts (.fieldLink RX13 28 "ClassMillModel" "node" "[I") mw_h5_34) (fun _ h9 => h9) hf11 dX13_isLedInWords_1 ?_
  refine lv_iload_n hx hb dX13_isLedInWords_4 rfl (lv_at hl 1 rfl) ?_
  obtain ⟨hi_1, hsp⟩ := ox_in hsp
  refine va_iald hx hb hK hP 1 0 rfl rfl (i := a1) hi_1 dX13_isLedInWords_5 ?_
  refine lv_istore_n (lv' := [(2, .int (f11 (a1 : Int32).toNatClampNeg)), (0, .ref h0), (1, .int a1)]) hx hb dX13_isLedInWords_6 rfl hl (by decide) rfl (fun ls hl => ?_)
  refine lv_iload_n hx hb dX13_isLedInWords_7 rfl (lv_at hl 0 rfl) ?_
  refine lv_bipush (v := 37) hx hb dX13_isLedInWords_8 (by decide) ?_
  refine lv_icmp_eq (tgt := 47) hx hb dX13_isLedInWords_10 (by decide) (fun c_2 => ?_) (fun c_2 => ?_)
  · rw [if_pos c_2] at hsp
    refine lv_iconst (v := 1) hx hb dX13_isLedInWords_47 (by decide) ?_
    refine lv_goto (tgt := 52) hx hb dX13_isLedInWords_48 (by decide) ?_
    have hr0 := Option.some.inj hsp
    clear hsp
    subst hr0
    have hP9 := hP.sub (ws' := [(h0, .inr (13, zs)), (qf11, .inl (cf11, 9000, .inl f11)), (qf20, .inl (cf20, 9000, .inl f20))]) [0, 1, 2] rfl
    have hD9 := hD.sub (ws' := [(h0, .inr (13, zs)), (qf11, .inl (cf11, 9000, .inl f11)), (qf20, .inl (cf20, 9000, .inl f20))]) [0, 1, 2] (by decide) rfl
    have hK9 := hK.sub (tys' := [(cf11, .int), (cf20, .int)]) [0, 1] rfl
    exact W.zret hx hb hr (by decide) (fun t ht hW => ⟨⟨(1), (zs), rfl, ⟨⟨rfl, Or.inr rfl⟩, hlen, hrs0⟩, by rw [ht]; exact hP9, va_K.moved hW.alike hK9, hD9⟩, hS.F ht⟩) hS.2.2 dX13_isLedInWords_52
  · rw [if_neg c_2] at hsp
    refine lv_iload_n hx hb dX13_isLedInWords_13 rfl (lv_at hl 0 rfl) ?_
    refine lv_bipush (v := 38) hx hb dX13_isLedInWords_14 (by decide) ?_
    refine lv_icmp_eq (tgt := 47) hx hb dX13_isLedInWords_16 (by decide) (fun c_3 => ?_) (fun c_3 => ?_)
    · rw [if_pos c_3] at hsp
      refine lv_iconst (v := 1) hx hb dX13_isLedInWords_47 (by decide) ?_
      refine lv_goto (tgt := 52) hx hb dX13_isLedInWords_48 (by decide) ?_
      have hr0 := Option.some.inj hsp
      clear hsp
      subst hr0
      have hP9 := hP.sub (ws' := [(h0, .inr (13, zs)), (qf11, .inl (cf11, 9000, .inl f11)), (qf20, .inl (cf20, 9000, .inl f20))]) [0, 1, 2] rfl
      have hD9 := hD.sub (ws' := [(h0, .inr (13, zs)), (qf11, .inl (cf11, 9000, .inl f11)), (qf20, .inl (cf20, 9000, .inl f20))]) [0, 1, 2] (by decide) rfl
      have hK9 := hK.sub (tys' := [(cf11, .int), (cf20, .int)]) [0, 1] rfl
      exact W.zret hx hb hr (by decide) (fun t ht hW => ⟨⟨(1), (zs), rfl, ⟨⟨rfl, Or.inr rfl⟩, hlen, hrs0⟩, by rw [ht]; exact hP9, va_K.moved hW.alike hK9, hD9⟩, hS.F ht⟩) hS.2.2 dX13_isLedInWords_52
    · rw [if_neg c_3] at hsp
      refine lv_iload_n hx hb dX13_isLedInWords_19 rfl (lv_at hl 0 rfl) ?_
      refine lv_bipush (v := 30) hx hb dX13_isLedInWords_20 (by decide) ?_
      refine lv_icmp_eq (tgt := 47) hx hb dX13_isLedInWords_22 (by decide) (fun c_4 => ?_) (fun c_4 => ?_)
      · rw [if_pos c_4] at hsp
        refine lv_iconst (v := 1) hx hb dX13_isLedInWords_47 (by decide) ?_
        refine lv_goto (tgt := 52) hx hb dX13_isLedInWords_48 (by decide) ?_
        have hr0 := Option.some.inj hsp
        clear hsp
        subst hr0
        have hP9 := hP.sub (ws' := [(h0, .inr (13, zs)), (qf11, .inl (cf11, 9000, .inl f11)), (qf20, .inl (cf20, 9000, .inl f20))]) [0, 1, 2] rfl
        have hD9 := hD.sub (ws' := [(h0, .inr (13, zs)), (qf11, .inl (cf11, 9000, .inl f11)), (qf20, .inl (cf20, 9000, .inl f20))]) [0, 1, 2] (by decide) rfl
        have hK9 := hK.sub (tys' := [(cf11, .int), (cf20, .int)]) [0, 1] rfl
        exact W.zret hx hb hr (by decide) (fun t ht hW => ⟨⟨(1), (zs), rfl, ⟨⟨rfl, Or.inr rfl⟩, hlen, hrs0⟩, by rw [ht]; exact hP9, va_K.moved hW.alike hK9, hD9⟩, hS.F ht⟩) hS.2.2 dX13_isLedInWords_52
      · rw [if_neg c_4] at hsp
        refine lv_iload_n hx hb dX13_isLedInWords_25 rfl (lv_at hl 0 rfl) ?_
        refine lv_bipush (v := 32) hx hb dX13_isLedInWords_26 (by decide) ?_
        refine lv_icmp_eq (tgt := 47) hx hb dX13_isLedInWords_28 (by decide) (fun c_5 => ?_) (fun c_5 => ?_)
        · rw [if_pos c_5] at hsp
          refine lv_iconst (v := 1) hx hb dX13_isLedInWords_47 (by decide) ?_
          refine lv_goto (tgt := 52) hx hb dX13_isLedInWords_48 (by decide) ?_
          have hr0 := Option.some.inj hsp
          clear hsp
          subst hr0
          have hP9 := hP.sub (ws' := [(h0, .inr (13, zs)), (qf11, .inl (cf11, 9000, .inl f11)), (qf20, .inl (cf20, 9000, .inl f20))]) [0, 1, 2] rfl
          have hD9 := hD.sub (ws' := [(h0, .inr (13, zs)), (qf11, .inl (cf11, 9000, .inl f11)), (qf20, .inl (cf20, 9000, .inl f20))]) [0, 1, 2] (by decide) rfl
          have hK9 := hK.sub (tys' := [(cf11, .int), (cf20, .int)]) [0, 1] rfl
          exact W.zret hx hb hr (by decide) (fun t ht hW => ⟨⟨(1), (zs), rfl, ⟨⟨rfl, Or.inr rfl⟩, hlen, hrs0⟩, by rw [ht]; exact hP9, va_K.moved hW.alike hK9, hD9⟩, hS.F ht⟩) hS.2.2 dX13_isLedInWords_52
        · rw [if_neg c_5] at hsp
          refine lv_iload_n hx hb dX13_isLedInWords_31 rfl (lv_at hl 0 rfl) ?_
          refine lv_bipush (v := 31) hx hb dX13_isLedInWords_32 (by decide) ?_
          refine lv_icmp_ne (tgt := 51) hx hb dX13_isLedInWords_34 (by decide) (fun c_6 => ?_) (fun c_6 => ?_)
          · rw [if_neg c_6] at hsp
            refine lv_iconst (v := 0) hx hb dX13_isLedInWords_51 (by decide) ?_
            have hr0 := Option.some.inj hsp
            clear hsp
            subst hr0
            have hP9 := hP.sub (ws' := [(h0, .inr (13, zs)), (qf11, .inl (cf11, 9000, .inl f11)), (qf20, .inl (cf20, 9000, .inl f20))]) [0, 1, 2] rfl
            have hD9 := hD.sub (ws' := [(h0, .inr (13, zs)), (qf11, .inl (cf11, 9000, .inl f11)), (qf20, .inl (cf20, 9000, .inl f20))]) [0, 1, 2] (by decide) rfl
            have hK9 := hK.sub (tys' := [(cf11, .int), (cf20, .int)]) [0, 1] rfl
            exact W.zret hx hb hr (by decide) (fun t ht hW => ⟨⟨(0), (zs), rfl, ⟨⟨rfl, Or.inl rfl⟩, hlen, hrs0⟩, by rw [ht]; exact hP9, va_K.moved hW.alike hK9, hD9⟩, hS.F ht⟩) hS.2.2 dX13_isLedInWords_52
          · rw [if_pos c_6] at hsp
            refine lv_aload_n hx hb dX13_isLedInWords_37 rfl (lv_at hl 1 rfl) ?_
            refine va_get (D := (dC, dI)) (ci := 13) (v := .ref qf20) (C := RX13) (T := TX13) (N := 155) hx hb hts uV_h5_X13 hown hK hP 0 rfl rfl 20 (by decide) (hts (.fieldLink RX13 55 "ClassMillModel" "slot" "[I") mw_h5_75) (fun _ h9 => h9) hf20 dX13_isLedInWords_38 ?_
            refine lv_iload_n hx hb dX13_isLedInWords_41 rfl (lv_at hl 2 rfl) ?_
            obtain ⟨hi_7, hsp⟩ := ox_in hsp
            refine va_iald hx hb hK hP 2 1 rfl rfl (i := a1) hi_7 dX13_isLedInWords_42 ?_
            refine lv_iconst (v := (-1)) hx hb dX13_isLedInWords_43 (by decide) ?_
            refine lv_icmp_ne (tgt := 51) hx hb dX13_isLedInWords_44 (by decide) (fun c_8 => ?_) (fun c_8 => ?_)
            · rw [if_neg c_8] at hsp
              refine lv_iconst (v := 0) hx hb dX13_isLedInWords_51 (by decide) ?_
              have hr0 := Option.some.inj hsp
              clear hsp
              subst hr0
              have hP9 := hP.sub (ws' := [(h0, .inr (13, zs)), (qf11, .inl (cf11, 9000, .inl f11)), (qf20, .inl (cf20, 9000, .inl f20))]) [0, 1, 2] rfl
              have hD9 := hD.sub (ws' := [(h0, .inr (13, zs)), (qf11, .inl (cf11, 9000, .inl f11)), (qf20, .inl (cf20, 9000, .inl f20))]) [0, 1, 2] (by decide) rfl
              have hK9 := hK.sub (tys' := [(cf11, .int), (cf20, .int)]) [0, 1] rfl
              exact W.zret hx hb hr (by decide) (fun t ht hW => ⟨⟨(0), (zs), rfl, ⟨⟨rfl, Or.inl rfl⟩, hlen, hrs0⟩, by rw [ht]; exact hP9, va_K.moved hW.alike hK9, hD9⟩, hS.F ht⟩) hS.2.2 dX13_isLedInWords_52
            · rw [if_pos c_8] at hsp
              refine lv_iconst (v := 1) hx hb dX13_isLedInWords_47 (by decide) ?_
              refine lv_goto (tgt := 52) hx hb dX13_isLedInWords_48 (by decide) ?_
              have hr0 := Option.some.inj hsp
              clear hsp
              subst hr0
              have hP9 := hP.sub (ws' := [(h0, .inr (13, zs)), (qf11, .inl (cf11, 9000, .inl f11)), (qf20, .inl (cf20, 9000, .inl f20))]) [0, 1, 2] rfl
              have hD9 := hD.sub (ws' := [(h0, .inr (13, zs)), (qf11, .inl (cf11, 9000, .inl f11)), (qf20, .inl (cf20, 9000, .inl f20))]) [0, 1, 2] (by decide) rfl
              have hK9 := hK.sub (tys' := [(cf11, .int), (cf20, .int)]) [0, 1] rfl
              exact W.zret hx hb hr (by decide) (fun t ht hW => ⟨⟨(1), (zs), rfl, ⟨⟨rfl, Or.inr rfl⟩, hlen, hrs0⟩, by rw [ht]; exact hP9, va_K.moved hW.alike hK9, hD9⟩, hS.F ht⟩) hS.2.2 dX13_isLedInWords_52
def sp_tm_tell (nf : Nat) (a1 : Int32) (v97 : Int32) (f96 : Nat → Int32) : Option ((Nat → Int32) × Int32) := (if 40000 ≤ v97 then (some (f96, (v97 + 1))) else (if v97 < 0 then none else if 40000 ≤ (v97 : Int32).toNatClampNeg then none else (some ((upd f96 (v97 : Int32).toNatClampNeg (a1 &&& 255)), (v97 + 1)))))
set_option maxHeartbeats 4000000 in
set_option maxRecDepth 100000 in
/-- ClassMillModel.tell -/
theorem tm_tell (l : Launch) (dC : Nat → ClassId) (dI : Nat → Nat → Nat) (sz : Nat) (h0 : Nat) (zs : (List Value)) (a1 : Int32) (qf96 : Nat) (v97 : Int32) (cf96 : ClassId) (f96 : (Nat → Int32)) (nf : Nat) (o96 : (Nat → Int32)) (w97 : Int32) (hlen : zs.length = 155) (hf96 : zs[96]? = some (.ref qf96)) (hf97 : zs[97]? = some (.int v97)) (hsp : sp_tm_tell nf a1 v97 f96 = some (o96, w97)) : Met l yX13_tell (.code yX13_tell cX13_tell 2 none :: VS_h5) ({ frames := 0, cells := 0, slots := 0, locals := 0 }) (va_Pc [.ref h0, .int a1] (fun U => U.heap.size = sz ∧ va_P (dC, dI) vwCl [(h0, .inr (13, zs)), (qf96, .inl (cf96, 40000, .inl f96))] U.heap ∧ va_K (dC, dI) vwCl [(cf96, .int)] U ∧ va_D (fun _ => True) [(h0, .inr (13, zs)), (qf96, .inl (cf96, 40000, .inl f96))])) (va_Qv (fun (u : (List Value)) => match u with | (zo1) => True ∧ zo1.length = 155 ∧ (∀ j : Nat, j ≠ 97 → zo1[j]? = zs[j]?) ∧ zo1[97]? = some (.int w97)) (fun (u : (List Value)) (t : State) => match u with | (zo1) => va_P (dC, dI) vwCl [(h0, .inr (13, zo1)), (qf96, .inl (cf96, 40000, .inl o96))] t.heap ∧ va_K (dC, dI) vwCl [(cf96, .int)] t ∧ va_D (va_A [(h0, .inr (13, zs)), (qf96, .inl (cf96, 40000, .inl f96))] sz) [(h0, .inr (13, zo1)), (qf96, .inl (cf96, 40000, .inl o96))]) (va_A [(h0, .inr (13, zs)), (qf96, .inl (cf96, 40000, .inl f96))] sz)) 0 0 (va_A [(h0, .inr (13, zs)), (qf96, .inl (cf96, 40000, .inl f96))] sz) := by
  refine Met.ofW (cc := cX13_tell) (maxL := 2) (ret := none) (by decide) rfl ?_
  intro p e s m args below meth c s₁ B hml hv
  obtain ⟨rfl, hsz, hP, hK, hD0⟩ := hv
  have hx := B.exec
  have hb := B.bytes
  have hr := B.returns
  have hts := atoms_spec (ws := (.code yX13_tell cX13_tell 2 none :: VS_h5)) B.pre
  replace hts := fun w (h : w ∈ VS_h5) => hts w (List.mem_cons_of_mem _ h)
  have hown : s.vm.findClass RX13 = some m.cls := findClass_of_methodNamed B.named
  have hlocks := B.notSynchronized
  subst hsz
  have hD := hD0.self (sz := s.heap.size)
  generalize hAe : va_A [(h0, .inr (13, zs)), (qf96, .inl (cf96, 40000, .inl f96))] s.heap.size = A at hD  ⊢
  have hA : ∀ q : Nat, s.heap.size ≤ q → A q := fun q h => by rw [← hAe]; exact Or.inr h
  have hP : va_P (dC, dI) vwCl [(h0, .inr (13, zs)), (qf96, .inl (cf96, 40000, .inl f96))] s.heap := hP
  have hl := lv_entry ([.ref h0, .int a1]) (n := 2) (Nat.le_of_ble_eq_true rfl)
  rw [lg_entry_eq]
  generalize (lg_sl ([.ref h0, .int a1]) ++ List.replicate (2 - (lg_sl ([.ref h0, .int a1])).length) Slot.unset).toArray = ls at hl ⊢
  have hl : lv_has ls 2 [(0, .ref h0), (1, .int a1)] := hl
  obtain ⟨H, hH⟩ : ∃ H : Heap, s.heap = H := ⟨_, rfl⟩
  rw [hH] at hP ⊢
  have hS : va_S A s.heap H [] := by rw [← hH]; exact va_S.rf
  obtain ⟨locs, hlo⟩ : ∃ locs : List Loc, locs = [] := ⟨_, rfl⟩
  rw [← hlo] at hS ⊢
  have hrs0 : ∀ j : Nat, j ≠ 97 → zs[j]? = zs[j]? := fun _ _  => rfl
  unfold sp_tm_tell at hsp
  refine lv_aload_n hx hb dX13_tell_0 rfl (lv_at hl 0 rfl) ?_
  refine va_get (D := (dC, dI)) (ci := 13) (v := .int v97) (C := RX13) (T := TX13) (N := 155) hx hb hts uV_h5_X13 hown hK hP 0 rfl rfl 97 (by decide) (hts (.fieldLink RX13 728 "ClassMillModel" "behindSize" "I") mw_h5_76) (fun _ h9 => h9) hf97 dX13_tell_1 ?_
  refine lv_aload_n hx hb dX13_tell_4 rfl (lv_at hl 0 rfl) ?_
  refine va_get (D := (dC, dI)) (ci := 13) (v := .ref qf96) (C := RX13) (T := TX13) (N := 155) hx hb hts uV_h5_X13 hown hK hP 0 rfl rfl 96 (by decide) (hts (.fieldLink RX13 206 "ClassMillModel" "behind" "[I") mw_h5_77) (fun _ h9 => h9) hf96 dX13_tell_5 ?_
  refine va_alen (v := 40000) hx hb hK hP 1 0 rfl rfl rfl dX13_tell_8 ?_
  refine lv_icmp_ge (tgt := 26) hx hb dX13_tell_9 (by decide) (fun c_1 => ?_) (fun c_1 => ?_)
  · rw [if_pos c_1] at hsp
    refine lv_aload_n hx hb dX13_tell_26 rfl (lv_at hl 0 rfl) ?_
    refine lv_dup hx hb dX13_tell_27 rfl ?_
    refine va_get (D := (dC, dI)) (ci := 13) (v := .int v97) (C := RX13) (T := TX13) (N := 155) hx hb hts uV_h5_X13 hown hK hP 0 rfl rfl 97 (by decide) (hts (.fieldLink RX13 728 "ClassMillModel" "behindSize" "I") mw_h5_76) (fun _ h9 => h9) hf97 dX13_tell_28 ?_
    refine lv_iconst (v := 1) hx hb dX13_tell_31 (by decide) ?_
    refine lv_iadd hx hb dX13_tell_32 ?_
    refine va_put (D := (dC, dI)) (ci := 13) (v := .int (v97 + 1)) (ty := .int) (C := RX13) (T := TX13) (N := 155) hx hb hts uV_h5_X13 tyX13 tyX13_ok nmX13 hown hK hP hD hS 0 rfl rfl 97 (by decide) (hts (.fieldLink RX13 728 "ClassMillModel" "behindSize" "I") mw_h5_76) (fun _ h9 => h9) rfl (by decide +kernel) rfl rfl (by rw [hlen]; decide) dX13_tell_33 ?_
    clear hP hD hS
    intro H locs hP hD hS
    obtain ⟨fs_2, efs_2⟩ : ∃ zf : List Value, zf = zs.set 97 (.int (v97 + 1)) := ⟨_, rfl⟩
    rw [← efs_2] at hP hD
    have hlfs_2 : fs_2.length = 155 := by rw [efs_2, List.length_set]; exact hlen
    have hfs_2_96 : fs_2[96]? = some (.ref qf96) := by rw [efs_2, List.getElem?_set_ne (by decide)]; exact hf96
    have hfs_2_97 : fs_2[97]? = some (.int (v97 + 1)) := by rw [efs_2, List.getElem?_set_self (by rw [hlen]; decide)]
    replace hP : va_P (dC, dI) vwCl [(h0, .inr (13, fs_2)), (qf96, .inl (cf96, 40000, .inl f96))] H := hP
    replace hD : va_D A [(h0, .inr (13, fs_2)), (qf96, .inl (cf96, 40000, .inl f96))] := hD
    have hrs_3 : ∀ j : Nat, j ≠ 97 → fs_2[j]? = zs[j]? := fun j g97 => ((congrArg (fun z : List Value => z[j]?) efs_2).trans (List.getElem?_set_ne (Ne.symm g97))).trans (hrs0 j g97)
    have hr0 := Option.some.inj hsp
    clear hsp
    obtain ⟨hq0, hr1⟩ := Prod.mk.inj hr0
    clear hr0
    subst hq0
    subst hr1
    have hP9 := hP.sub (ws' := [(h0, .inr (13, fs_2)), (qf96, .inl (cf96, 40000, .inl f96))]) [0, 1] rfl
    have hD9 := hD.sub (ws' := [(h0, .inr (13, fs_2)), (qf96, .inl (cf96, 40000, .inl f96))]) [0, 1] (by decide) rfl
    have hK9 := hK.sub (tys' := [(cf96, .int)]) [0] rfl
    exact W.vret hx hb hr (fun t ht hW => ⟨⟨(fs_2), rfl, ⟨trivial, hlfs_2, hrs_3, hfs_2_97⟩, by rw [ht]; exact hP9, va_K.moved hW.alike hK9, hD9⟩, hS.F ht⟩) hS.2.2 dX13_tell_36
  · rw [if_neg c_1] at hsp
    refine lv_aload_n hx hb dX13_tell_12 rfl (lv_at hl 0 rfl) ?_
    refine va_get (D := (dC, dI)) (ci := 13) (v := .ref qf96) (C := RX13) (T := TX13) (N := 155) hx hb hts uV_h5_X13 hown hK hP 0 rfl rfl 96 (by decide) (hts (.fieldLink RX13 206 "ClassMillModel" "behind" "[I") mw_h5_77) (fun _ h9 => h9) hf96 dX13_tell_13 ?_
    refine lv_aload_n hx hb dX13_tell_16 rfl (lv_at hl 0 rfl) ?_
    refine va_get (D := (dC, dI)) (ci := 13) (v := .int v97) (C := RX13) (T := TX13) (N := 155) hx hb hts uV_h5_X13 hown hK hP 0 rfl rfl 97 (by decide) (hts (.fieldLink RX13 728 "ClassMillModel" "behindSize" "I") mw_h5_76) (fun _ h9 => h9) hf97 dX13_tell_17 ?_
    refine lv_iload_n hx hb dX13_tell_20 rfl (lv_at hl 1 rfl) ?_
    refine lv_sipush (v := 255) hx hb dX13_tell_21 (by decide) ?_
    refine lv_iand hx hb dX13_tell_24 ?_
    obtain ⟨hi_4, hsp⟩ := ox_in hsp
    refine va_iast hx hb hK hP hD hS 1 0 rfl rfl (i := v97) (x := (a1 &&& 255)) hi_4 dX13_tell_25 ?_
    clear hP hD hS
    intro H locs hP hD hS
    replace hP : va_P (dC, dI) vwCl [(h0, .inr (13, zs)), (qf96, .inl (cf96, 40000, .inl (upd f96 (v97 : Int32).toNatClampNeg (a1 &&& 255))))] H := hP
    replace hD : va_D A [(h0, .inr (13, zs)), (qf96, .inl (cf96, 40000, .inl (upd f96 (v97 : Int32).toNatClampNeg (a1 &&& 255))))] := hD
    refine lv_aload_n hx hb dX13_tell_26 rfl (lv_at hl 0 rfl) ?_
    refine lv_dup hx hb dX13_tell_27 rfl ?_
    refine va_get (D := (dC, dI)) (ci := 13) (v := .int v97) (C := RX13) (T := TX13) (N := 155) hx hb hts uV_h5_X13 hown hK hP 0 rfl rfl 97 (by decide) (hts (.fieldLink RX13 728 "ClassMillModel" "behindSize" "I") mw_h5_76) (fun _ h9 => h9) hf97 dX13_tell_28 ?_
    refine lv_iconst (v := 1) hx hb dX13_tell_31 (by decide) ?_
    refine lv_iadd hx hb dX13_tell_32 ?_
    refine va_put (D := (dC, dI)) (ci := 13) (v := .int (v97 + 1)) (ty := .int) (C := RX13) (T := TX13) (N := 155) hx hb hts uV_h5_X13 tyX13 tyX13_ok nmX13 hown hK hP hD hS 0 rfl rfl 97 (by decide) (hts (.fieldLink RX13 728 "ClassMillModel" "behindSize" "I") mw_h5_76) (fun _ h9 => h9) rfl (by decide +kernel) rfl rfl (by rw [hlen]; decide) dX13_tell_33 ?_
    clear hP hD hS
    intro H locs hP hD hS
    obtain ⟨fs_5, efs_5⟩ : ∃ zf : List Value, zf = zs.set 97 (.int (v97 + 1)) := ⟨_, rfl⟩
    rw [← efs_5] at hP hD
    have hlfs_5 : fs_5.length = 155 := by rw [efs_5, List.length_set]; exact hlen
    have hfs_5_96 : fs_5[96]? = some (.ref qf96) := by rw [efs_5, List.getElem?_set_ne (by decide)]; exact hf96
    have hfs_5_97 : fs_5[97]? = some (.int (v97 + 1)) := by rw [efs_5, List.getElem?_set_self (by rw [hlen]; decide)]
    replace hP : va_P (dC, dI) vwCl [(h0, .inr (13, fs_5)), (qf96, .inl (cf96, 40000, .inl (upd f96 (v97 : Int32).toNatClampNeg (a1 &&& 255))))] H := hP
    replace hD : va_D A [(h0, .inr (13, fs_5)), (qf96, .inl (cf96, 40000, .inl (upd f96 (v97 : Int32).toNatClampNeg (a1 &&& 255))))] := hD
    have hrs_6 : ∀ j : Nat, j ≠ 97 → fs_5[j]? = zs[j]? := fun j g97 => ((congrArg (fun z : List Value => z[j]?) efs_5).trans (List.getElem?_set_ne (Ne.symm g97))).trans (hrs0 j g97)
    have hr0 := Option.some.inj hsp
    clear hsp
    obtain ⟨hq0, hr1⟩ := Prod.mk.inj hr0
    clear hr0
    subst hq0
    subst hr1
    have hP9 := hP.sub (ws' := [(h0, .inr (13, fs_5)), (qf96, .inl (cf96, 40000, .inl (upd f96 (v97 : Int32).toNatClampNeg (a1 &&& 255))))]) [0, 1] rfl
    have hD9 := hD.sub (ws' := [(h0, .inr (13, fs_5)), (qf96, .inl (cf96, 40000, .inl (upd f96 (v97 : Int32).toNatClampNeg (a1 &&& 255))))]) [0, 1] (by decide) rfl
    have hK9 := hK.sub (tys' := [(cf96, .int)]) [0] rfl
    exact W.vret hx hb hr (fun t ht hW => ⟨⟨(fs_5), rfl, ⟨trivial, hlfs_5, hrs_6, hfs_5_97⟩, by rw [ht]; exact hP9, va_K.moved hW.alike hK9, hD9⟩, hS.F ht⟩) hS.2.2 dX13_tell_36
def sp_tm_tellPair (nf : Nat) (a1 : Int32) (v97 : Int32) (f96 : Nat → Int32) : Option ((Nat → Int32) × Int32) := ((sp_tm_tell nf (a1 >>> (8 &&& 31)) v97 f96).bind (fun p1 => ((sp_tm_tell nf a1 p1.2 p1.1).bind (fun p2 => (some (p2.1, p2.2))))))
set_option maxHeartbeats 4000000 in
set_option maxRecDepth 100000 in
/-- ClassMillModel.tellPair -/
theorem tm_tellPair (l : Launch) (dC : Nat → ClassId) (dI : Nat → Nat → Nat) (sz : Nat) (h0 : Nat) (zs : (List Value)) (a1 : Int32) (qf96 : Nat) (v97 : Int32) (cf96 : ClassId) (f96 : (Nat → Int32)) (nf : Nat) (o96 : (Nat → Int32)) (w97 : Int32) (hlen : zs.length = 155) (hf96 : zs[96]? = some (.ref qf96)) (hf97 : zs[97]? = some (.int v97)) (hsp : sp_tm_tellPair nf a1 v97 f96 = some (o96, w97)) : Met l yX13_tellPair (.code yX13_tellPair cX13_tellPair 2 none :: VS_h5) ({ frames := 1, cells := 0, slots := 0, locals := 21 }) (va_Pc [.ref h0, .int a1] (fun U => U.heap.size = sz ∧ va_P (dC, dI) vwCl [(h0, .inr (13, zs)), (qf96, .inl (cf96, 40000, .inl f96))] U.heap ∧ va_K (dC, dI) vwCl [(cf96, .int)] U ∧ va_D (fun _ => True) [(h0, .inr (13, zs)), (qf96, .inl (cf96, 40000, .inl f96))])) (va_Qv (fun (u : (List Value)) => match u with | (zo1) => True ∧ zo1.length = 155 ∧ (∀ j : Nat, j ≠ 97 → zo1[j]? = zs[j]?) ∧ zo1[97]? = some (.int w97)) (fun (u : (List Value)) (t : State) => match u with | (zo1) => va_P (dC, dI) vwCl [(h0, .inr (13, zo1)), (qf96, .inl (cf96, 40000, .inl o96))] t.heap ∧ va_K (dC, dI) vwCl [(cf96, .int)] t ∧ va_D (va_A [(h0, .inr (13, zs)), (qf96, .inl (cf96, 40000, .inl f96))] sz) [(h0, .inr (13, zo1)), (qf96, .inl (cf96, 40000, .inl o96))]) (va_A [(h0, .inr (13, zs)), (qf96, .inl (cf96, 40000, .inl f96))] sz)) 0 0 (va_A [(h0, .inr (13, zs)), (qf96, .inl (cf96, 40000, .inl f96))] sz) := by
  refine Met.ofW (cc := cX13_tellPair) (maxL := 2) (ret := none) (by decide) rfl ?_
  intro p e s m args below meth c s₁ B hml hv
  obtain ⟨rfl, hsz, hP, hK, hD0⟩ := hv
  have hx := B.exec
  have hb := B.bytes
  have hr := B.returns
  have hts := atoms_spec (ws := (.code yX13_tellPair cX13_tellPair 2 none :: VS_h5)) B.pre
  replace hts := fun w (h : w ∈ VS_h5) => hts w (List.mem_cons_of_mem _ h)
  have hown : s.vm.findClass RX13 = some m.cls := findClass_of_methodNamed B.named
  have hlocks := B.notSynchronized
  subst hsz
  have hD := hD0.self (sz := s.heap.size)
  generalize hAe : va_A [(h0, .inr (13, zs)), (qf96, .inl (cf96, 40000, .inl f96))] s.heap.size = A at hD  ⊢
  have hA : ∀ q : Nat, s.heap.size ≤ q → A q := fun q h => by rw [← hAe]; exact Or.inr h
  have hP : va_P (dC, dI) vwCl [(h0, .inr (13, zs)), (qf96, .inl (cf96, 40000, .inl f96))] s.heap := hP
  have hl := lv_entry ([.ref h0, .int a1]) (n := 2) (Nat.le_of_ble_eq_true rfl)
  rw [lg_entry_eq]
  generalize (lg_sl ([.ref h0, .int a1]) ++ List.replicate (2 - (lg_sl ([.ref h0, .int a1])).length) Slot.unset).toArray = ls at hl ⊢
  have hl : lv_has ls 2 [(0, .ref h0), (1, .int a1)] := hl
  obtain ⟨H, hH⟩ : ∃ H : Heap, s.heap = H := ⟨_, rfl⟩
  rw [hH] at hP ⊢
  have hS : va_S A s.heap H [] := by rw [← hH]; exact va_S.rf
  obtain ⟨locs, hlo⟩ : ∃ locs : List Loc, locs = [] := ⟨_, rfl⟩
  rw [← hlo] at hS ⊢
  have hrs0 : ∀ j : Nat, j ≠ 97 → zs[j]? = zs[j]? := fun _ _  => rfl
  unfold sp_tm_tellPair at hsp
  refine lv_aload_n hx hb dX13_tellPair_0 rfl (lv_at hl 0 rfl) ?_
  refine lv_iload_n hx hb dX13_tellPair_1 rfl (lv_at hl 1 rfl) ?_
  refine lv_bipush (v := 8) hx hb dX13_tellPair_2 (by decide) ?_
  refine lv_ishr hx hb dX13_tellPair_4 ?_
  obtain ⟨⟨g901_0, u1_1⟩, hu_1, hsp⟩ := ox_bind hsp
  try dsimp only at hsp
  have hPc := hP.sub (ws' := [(h0, .inr (13, zs)), (qf96, .inl (cf96, 40000, .inl f96))]) [0, 1] rfl
  have hDc := hD.sub (ws' := [(h0, .inr (13, zs)), (qf96, .inl (cf96, 40000, .inl f96))]) [0, 1] (by decide) rfl
  have hKc := hK.sub (tys' := [(cf96, .int)]) [0] rfl
  have hFc := va_free (wc := [(h0, .inr (13, zs)), (qf96, .inl (cf96, 40000, .inl f96))]) hD hS hA [0, 1] rfl
  refine va_callv (va_runV (As := [.int (a1 >>> (8 &&& 31))]) (rest := []) ⟨hx, hb, hml, hown, hts⟩ (tm_tell l dC dI H.size h0 zs ((a1 >>> (8 &&& 31))) qf96 v97 cf96 f96 nf g901_0 u1_1 hlen hf96 hf97 hu_1) (cwV 1 hts gv_h5_9 rfl rfl rfl (by decide +kernel) ⟨Nat.le_of_ble_eq_true rfl, Nat.le_of_ble_eq_true rfl⟩) ⟨fun a U g mk q => by obtain ⟨q0, q1, qP, qK, qD⟩ := q; exact ⟨q0, q1, qP, va_K.moved (u := U) (U := U.calling g mk a) (Vm.Alike.refl U.vm) qK, qD⟩, va_recv hKc hPc (ci := 13) (q0 := 0) rfl rfl, fun U hU hW => ⟨rfl, by rw [hU], by rw [hU]; exact hPc, va_K.moved hW.alike hKc, hDc.weaken (fun _ _ _ _ => trivial)⟩⟩ rfl rfl hl.1 rfl (lv_room (Nat.le_of_ble_eq_true rfl)) dX13_tellPair_5 ⟨Nat.le_of_ble_eq_true rfl, Nat.le_of_ble_eq_true rfl⟩) hS (fun q _ h => hFc q h) hFc ?_
  clear hS
  intro u t H1 locs ht hvm hw hB hz1 hk1 hS
  obtain ⟨z_1, rfl⟩ : ∃ z, z = u := ⟨_, rfl⟩
  obtain ⟨hP1, hK1, hD1⟩ := hB
  rw [ht] at hP1
  have hK1 := va_K.moved hvm.symm hK1
  try dsimp only at hw
  have hPD := va_join (wr := []) (w1 := [(h0, .inr (13, z_1)), (qf96, .inl (cf96, 40000, .inl g901_0))]) hP hD [0, 1] [] rfl rfl (by decide) (by decide) hk1 hFc hP1 hD1
  clear hP hD
  obtain ⟨hP, hD⟩ := hPD
  replace hK := (hK.sub (tys' := []) [] rfl).app hK1
  clear hPc hDc hKc hFc hP1 hK1 hD1 hz1 hk1 ht hvm
  generalize H1 = H at hP hS ⊢
  replace hP : va_P (dC, dI) vwCl [(h0, .inr (13, z_1)), (qf96, .inl (cf96, 40000, .inl g901_0))] H := hP
  replace hD : va_D A [(h0, .inr (13, z_1)), (qf96, .inl (cf96, 40000, .inl g901_0))] := hD
  replace hK : va_K (dC, dI) vwCl [(cf96, .int)] s := hK
  obtain ⟨hwa_1, hln_1, hre_1, hch_1_97⟩ := hw
  have hfk_1_96 : z_1[96]? = some (.ref qf96) := (hre_1 96 (by decide)).trans (hf96)
  have hrq_1 : ∀ j : Nat, j ≠ 97 → z_1[j]? = zs[j]? := fun j g97 => (hre_1 j g97).trans (hrs0 j g97)
  refine lv_aload_n hx hb dX13_tellPair_8 rfl (lv_at hl 0 rfl) ?_
  refine lv_iload_n hx hb dX13_tellPair_9 rfl (lv_at hl 1 rfl) ?_
  obtain ⟨⟨g902_0, u2_1⟩, hu_2, hsp⟩ := ox_bind hsp
  try dsimp only at hsp
  have hPc := hP.sub (ws' := [(h0, .inr (13, z_1)), (qf96, .inl (cf96, 40000, .inl g901_0))]) [0, 1] rfl
  have hDc := hD.sub (ws' := [(h0, .inr (13, z_1)), (qf96, .inl (cf96, 40000, .inl g901_0))]) [0, 1] (by decide) rfl
  have hKc := hK.sub (tys' := [(cf96, .int)]) [0] rfl
  have hFc := va_free (wc := [(h0, .inr (13, z_1)), (qf96, .inl (cf96, 40000, .inl g901_0))]) hD hS hA [0, 1] rfl
  refine va_callv (va_runV (As := [.int a1]) (rest := []) ⟨hx, hb, hml, hown, hts⟩ (tm_tell l dC dI H.size h0 z_1 a1 qf96 u1_1 cf96 g901_0 nf g902_0 u2_1 hln_1 hfk_1_96 hch_1_97 hu_2) (cwV 1 hts gv_h5_9 rfl rfl rfl (by decide +kernel) ⟨Nat.le_of_ble_eq_true rfl, Nat.le_of_ble_eq_true rfl⟩) ⟨fun a U g mk q => by obtain ⟨q0, q1, qP, qK, qD⟩ := q; exact ⟨q0, q1, qP, va_K.moved (u := U) (U := U.calling g mk a) (Vm.Alike.refl U.vm) qK, qD⟩, va_recv hKc hPc (ci := 13) (q0 := 0) rfl rfl, fun U hU hW => ⟨rfl, by rw [hU], by rw [hU]; exact hPc, va_K.moved hW.alike hKc, hDc.weaken (fun _ _ _ _ => trivial)⟩⟩ rfl rfl hl.1 rfl (lv_room (Nat.le_of_ble_eq_true rfl)) dX13_tellPair_10 ⟨Nat.le_of_ble_eq_true rfl, Nat.le_of_ble_eq_true rfl⟩) hS (fun q _ h => hFc q h) hFc ?_
  clear hS
  intro u t H1 locs ht hvm hw hB hz1 hk1 hS
  obtain ⟨z_2, rfl⟩ : ∃ z, z = u := ⟨_, rfl⟩
  obtain ⟨hP1, hK1, hD1⟩ := hB
  rw [ht] at hP1
  have hK1 := va_K.moved hvm.symm hK1
  try dsimp only at hw
  have hPD := va_join (wr := []) (w1 := [(h0, .inr (13, z_2)), (qf96, .inl (cf96, 40000, .inl g902_0))]) hP hD [0, 1] [] rfl rfl (by decide) (by decide) hk1 hFc hP1 hD1
  clear hP hD
  obtain ⟨hP, hD⟩ := hPD
  replace hK := (hK.sub (tys' := []) [] rfl).app hK1
  clear hPc hDc hKc hFc hP1 hK1 hD1 hz1 hk1 ht hvm
  generalize H1 = H at hP hS ⊢
  replace hP : va_P (dC, dI) vwCl [(h0, .inr (13, z_2)), (qf96, .inl (cf96, 40000, .inl g902_0))] H := hP
  replace hD : va_D A [(h0, .inr (13, z_2)), (qf96, .inl (cf96, 40000, .inl g902_0))] := hD
  replace hK : va_K (dC, dI) vwCl [(cf96, .int)] s := hK
  obtain ⟨hwa_2, hln_2, hre_2, hch_2_97⟩ := hw
  have hfk_2_96 : z_2[96]? = some (.ref qf96) := (hre_2 96 (by decide)).trans (hfk_1_96)
  have hrq_2 : ∀ j : Nat, j ≠ 97 → z_2[j]? = zs[j]? := fun j g97 => (hre_2 j g97).trans (hrq_1 j g97)
  have hr0 := Option.some.inj hsp
  clear hsp
  obtain ⟨hq0, hr1⟩ := Prod.mk.inj hr0
  clear hr0
  subst hq0
  subst hr1
  have hP9 := hP.sub (ws' := [(h0, .inr (13, z_2)), (qf96, .inl (cf96, 40000, .inl g902_0))]) [0, 1] rfl
  have hD9 := hD.sub (ws' := [(h0, .inr (13, z_2)), (qf96, .inl (cf96, 40000, .inl g902_0))]) [0, 1] (by decide) rfl
  have hK9 := hK.sub (tys' := [(cf96, .int)]) [0] rfl
  exact W.vret hx hb hr (fun t ht hW => ⟨⟨(z_2), rfl, ⟨trivial, hln_2, hrq_2, hch_2_97⟩, by rw [ht]; exact hP9, va_K.moved hW.alike hK9, hD9⟩, hS.F ht⟩) hS.2.2 dX13_tellPair_13
def sp_tm_fault (nf : Nat) (a1 : Int32) (v9 : Int32) (v10 : Int32) : Option (Int32) := (if a1 = 0 then (some v9) else (if a1 = 1 then (if v9 ≤ 0 then (some (-1)) else (some v10)) else (some (-1))))
set_option maxHeartbeats 4000000 in
set_option maxRecDepth 100000 in
/-- ClassMillModel.fault -/
theorem tm_fault (l : Launch) (dC : Nat → ClassId) (dI : Nat → Nat → Nat) (sz : Nat) (h0 : Nat) (zs : (List Value)) (a1 : Int32) (v9 : Int32) (v10 : Int32) (nf : Nat) (r0 : Int32) (hlen : zs.length = 155) (hf9 : zs[9]? = some (.int v9)) (hf10 : zs[10]? = some (.int v10)) (hsp : sp_tm_fault nf a1 v9 v10 = some r0) : Met l yX13_fault (.code yX13_fault cX13_fault 2 (some .int) :: VS_h5) ({ frames := 0, cells := 0, slots := 0, locals := 0 }) (va_Pc [.ref h0, .int a1] (fun U => U.heap.size = sz ∧ va_P (dC, dI) vwCl [(h0, .inr (13, zs))] U.heap ∧ va_K (dC, dI) vwCl [] U ∧ va_D (fun _ => True) [(h0, .inr (13, zs))])) (va_Qi (fun (r : Int32) (u : (List Value)) => match u with | (zo1) => r0 = r ∧ zo1.length = 155 ∧ (∀ j : Nat, zo1[j]? = zs[j]?)) (fun (u : (List Value)) (t : State) => match u with | (zo1) => va_P (dC, dI) vwCl [(h0, .inr (13, zo1))] t.heap ∧ va_K (dC, dI) vwCl [] t ∧ va_D (va_A [(h0, .inr (13, zs))] sz) [(h0, .inr (13, zo1))]) (va_A [(h0, .inr (13, zs))] sz)) 0 0 (va_A [(h0, .inr (13, zs))] sz) := by
  refine Met.ofW (cc := cX13_fault) (maxL := 2) (ret := (some .int)) (by decide) rfl ?_
  intro p e s m args below meth c s₁ B hml hv
  obtain ⟨rfl, hsz, hP, hK, hD0⟩ := hv
  have hx := B.exec
  have hb := B.bytes
  have hr := B.returns
  have hts := atoms_spec (ws := (.code yX13_fault cX13_fault 2 (some .int) :: VS_h5)) B.pre
  replace hts := fun w (h : w ∈ VS_h5) => hts w (List.mem_cons_of_mem _ h)
  have hown : s.vm.findClass RX13 = some m.cls := findClass_of_methodNamed B.named
  have hlocks := B.notSynchronized
  subst hsz
  have hD := hD0.self (sz := s.heap.size)
  generalize hAe : va_A [(h0, .inr (13, zs))] s.heap.size = A at hD  ⊢
  have hA : ∀ q : Nat, s.heap.size ≤ q → A q := fun q h => by rw [← hAe]; exact Or.inr h
  have hP : va_P (dC, dI) vwCl [(h0, .inr (13, zs))] s.heap := hP
  have hl := lv_entry ([.ref h0, .int a1]) (n := 2) (Nat.le_of_ble_eq_true rfl)
  rw [lg_entry_eq]
  generalize (lg_sl ([.ref h0, .int a1]) ++ List.replicate (2 - (lg_sl ([.ref h0, .int a1])).length) Slot.unset).toArray = ls at hl ⊢
  have hl : lv_has ls 2 [(0, .ref h0), (1, .int a1)] := hl
  obtain ⟨H, hH⟩ : ∃ H : Heap, s.heap = H := ⟨_, rfl⟩
  rw [hH] at hP ⊢
  have hS : va_S A s.heap H [] := by rw [← hH]; exact va_S.rf
  obtain ⟨locs, hlo⟩ : ∃ locs : List Loc, locs = [] := ⟨_, rfl⟩
  rw [← hlo] at hS ⊢
  have hrs0 : ∀ j : Nat, zs[j]? = zs[j]? := fun _  => rfl
  unfold sp_tm_fault at hsp
  refine lv_iload_n hx hb dX13_fault_0 rfl (lv_at hl 1 rfl) ?_
  refine lv_if_ne (tgt := 11) hx hb dX13_fault_1 (by decide) (fun c_1 => ?_) (fun c_1 => ?_)
  · rw [if_neg c_1] at hsp
    refine lv_iload_n hx hb dX13_fault_11 rfl (lv_at hl 1 rfl) ?_
    refine lv_iconst (v := 1) hx hb dX13_fault_12 (by decide) ?_
    refine lv_icmp_ne (tgt := 30) hx hb dX13_fault_13 (by decide) (fun c_2 => ?_) (fun c_2 => ?_)
    · rw [if_neg c_2] at hsp
      refine lv_iconst (v := (-1)) hx hb dX13_fault_30 (by decide) ?_
      have hr0 := Option.some.inj hsp
      clear hsp
      subst hr0
      have hP9 := hP.sub (ws' := [(h0, .inr (13, zs))]) [0] rfl
      have hD9 := hD.sub (ws' := [(h0, .inr (13, zs))]) [0] (by decide) rfl
      have hK9 := hK.sub (tys' := []) [] rfl
      exact W.iret hx hb hr (fun t ht hW => ⟨⟨((-1)), (zs), rfl, ⟨rfl, hlen, hrs0⟩, by rw [ht]; exact hP9, va_K.moved hW.alike hK9, hD9⟩, hS.F ht⟩) hS.2.2 dX13_fault_31
    · rw [if_pos c_2] at hsp
      refine lv_aload_n hx hb dX13_fault_16 rfl (lv_at hl 0 rfl) ?_
      refine va_get (D := (dC, dI)) (ci := 13) (v := .int v9) (C := RX13) (T := TX13) (N := 155) hx hb hts uV_h5_X13 hown hK hP 0 rfl rfl 9 (by decide) (hts (.fieldLink RX13 319 "ClassMillModel" "fault" "I") mw_h5_1) (fun _ h9 => h9) hf9 dX13_fault_17 ?_
      refine lv_if_le (tgt := 30) hx hb dX13_fault_20 (by decide) (fun c_3 => ?_) (fun c_3 => ?_)
      · rw [if_pos c_3] at hsp
        refine lv_iconst (v := (-1)) hx hb dX13_fault_30 (by decide) ?_
        have hr0 := Option.some.inj hsp
        clear hsp
        subst hr0
        have hP9 := hP.sub (ws' := [(h0, .inr (13, zs))]) [0] rfl
        have hD9 := hD.sub (ws' := [(h0, .inr (13, zs))]) [0] (by decide) rfl
        have hK9 := hK.sub (tys' := []) [] rfl
        exact W.iret hx hb hr (fun t ht hW => ⟨⟨((-1)), (zs), rfl, ⟨rfl, hlen, hrs0⟩, by rw [ht]; exact hP9, va_K.moved hW.alike hK9, hD9⟩, hS.F ht⟩) hS.2.2 dX13_fault_31
      · rw [if_neg c_3] at hsp
        refine lv_aload_n hx hb dX13_fault_23 rfl (lv_at hl 0 rfl) ?_
        refine va_get (D := (dC, dI)) (ci := 13) (v := .int v10) (C := RX13) (T := TX13) (N := 155) hx hb hts uV_h5_X13 hown hK hP 0 rfl rfl 10 (by decide) (hts (.fieldLink RX13 322 "ClassMillModel" "place" "I") mw_h5_3) (fun _ h9 => h9) hf10 dX13_fault_24 ?_
        refine lv_goto (tgt := 31) hx hb dX13_fault_27 (by decide) ?_
        have hr0 := Option.some.inj hsp
        clear hsp
        subst hr0
        have hP9 := hP.sub (ws' := [(h0, .inr (13, zs))]) [0] rfl
        have hD9 := hD.sub (ws' := [(h0, .inr (13, zs))]) [0] (by decide) rfl
        have hK9 := hK.sub (tys' := []) [] rfl
        exact W.iret hx hb hr (fun t ht hW => ⟨⟨(v10), (zs), rfl, ⟨rfl, hlen, hrs0⟩, by rw [ht]; exact hP9, va_K.moved hW.alike hK9, hD9⟩, hS.F ht⟩) hS.2.2 dX13_fault_31
  · rw [if_pos c_1] at hsp
    refine lv_aload_n hx hb dX13_fault_4 rfl (lv_at hl 0 rfl) ?_
    refine va_get (D := (dC, dI)) (ci := 13) (v := .int v9) (C := RX13) (T := TX13) (N := 155) hx hb hts uV_h5_X13 hown hK hP 0 rfl rfl 9 (by decide) (hts (.fieldLink RX13 319 "ClassMillModel" "fault" "I") mw_h5_1) (fun _ h9 => h9) hf9 dX13_fault_5 ?_
    refine lv_goto (tgt := 31) hx hb dX13_fault_8 (by decide) ?_
    have hr0 := Option.some.inj hsp
    clear hsp
    subst hr0
    have hP9 := hP.sub (ws' := [(h0, .inr (13, zs))]) [0] rfl
    have hD9 := hD.sub (ws' := [(h0, .inr (13, zs))]) [0] (by decide) rfl
    have hK9 := hK.sub (tys' := []) [] rfl
    exact W.iret hx hb hr (fun t ht hW => ⟨⟨(v9), (zs), rfl, ⟨rfl, hlen, hrs0⟩, by rw [ht]; exact hP9, va_K.moved hW.alike hK9, hD9⟩, hS.F ht⟩) hS.2.2 dX13_fault_31
def sp_tm_image (nf : Nat) (a1 : Int32) (a2 : Int32) (v93 : Int32) (f92 : Nat → Int32) (f91 : Nat → Int32) : Option (Int32) := (if a1 < 0 then (some (-1)) else (if v93 ≤ a1 then (some (-1)) else (if a2 < (-1) then (some (-1)) else (if a1 < 0 then none else if 8 ≤ (a1 : Int32).toNatClampNeg then none else (if a2 < (f92 (a1 : Int32).toNatClampNeg) then (if a2 = (-1) then (if a1 < 0 then none else if 8 ≤ (a1 : Int32).toNatClampNeg then none else (some (f92 (a1 : Int32).toNatClampNeg))) else (if ((6000 * a1) + a2) < 0 then none else if 48000 ≤ (((6000 * a1) + a2) : Int32).toNatClampNeg then none else (some (f91 (((6000 * a1) + a2) : Int32).toNatClampNeg)))) else (some (-1)))))))
set_option maxHeartbeats 4000000 in
set_option maxRecDepth 100000 in
/-- ClassMillModel.image -/
theorem tm_image (l : Launch) (dC : Nat → ClassId) (dI : Nat → Nat → Nat) (sz : Nat) (h0 : Nat) (zs : (List Value)) (a1 : Int32) (a2 : Int32) (qf91 : Nat) (qf92 : Nat) (v93 : Int32) (cf92 : ClassId) (f92 : (Nat → Int32)) (cf91 : ClassId) (f91 : (Nat → Int32)) (nf : Nat) (r0 : Int32) (hlen : zs.length = 155) (hf91 : zs[91]? = some (.ref qf91)) (hf92 : zs[92]? = some (.ref qf92)) (hf93 : zs[93]? = some (.int v93)) (hsp : sp_tm_image nf a1 a2 v93 f92 f91 = some r0) : Met l yX13_image (.code yX13_image cX13_image 3 (some .int) :: VS_h5) ({ frames := 0, cells := 0, slots := 0, locals := 0 }) (va_Pc [.ref h0, .int a1, .int a2] (fun U => U.heap.size = sz ∧ va_P (dC, dI) vwCl [(h0, .inr (13, zs)), (qf92, .inl (cf92, 8, .inl f92)), (qf91, .inl (cf91, 48000, .inl f91))] U.heap ∧ va_K (dC, dI) vwCl [(cf92, .int), (cf91, .int)] U ∧ va_D (fun _ => True) [(h0, .inr (13, zs)), (qf92, .inl (cf92, 8, .inl f92)), (qf91, .inl (cf91, 48000, .inl f91))])) (va_Qi (fun (r : Int32) (u : (List Value)) => match u with | (zo1) => r0 = r ∧ zo1.length = 155 ∧ (∀ j : Nat, zo1[j]? = zs[j]?)) (fun (u : (List Value)) (t : State) => match u with | (zo1) => va_P (dC, dI) vwCl [(h0, .inr (13, zo1)), (qf92, .inl (cf92, 8, .inl f92)), (qf91, .inl (cf91, 48000, .inl f91))] t.heap ∧ va_K (dC, dI) vwCl [(cf92, .int), (cf91, .int)] t ∧ va_D (va_A [(h0, .inr (13, zs)), (qf92, .inl (cf92, 8, .inl f92)), (qf91, .inl (cf91, 48000, .inl f91))] sz) [(h0, .inr (13, zo1)), (qf92, .inl (cf92, 8, .inl f92)), (qf91, .inl (cf91, 48000, .inl f91))]) (va_A [(h0, .inr (13, zs)), (qf92, .inl (cf92, 8, .inl f92)), (qf91, .inl (cf91, 48000, .inl f91))] sz)) 0 0 (va_A [(h0, .inr (13, zs)), (qf92, .inl (cf92, 8, .inl f92)), (qf91, .inl (cf91, 48000, .inl f91))] sz) := by
  refine Met.ofW (cc := cX13_image) (maxL := 3) (ret := (some .int)) (by decide) rfl ?_
  intro p e s m args below meth c s₁ B hml hv
  obtain ⟨rfl, hsz, hP, hK, hD0⟩ := hv
  have hx := B.exec
  have hb := B.bytes
  have hr := B.returns
  have hts := atoms_spec (ws := (.code yX13_image cX13_image 3 (some .int) :: VS_h5)) B.pre
  replace hts := fun w (h : w ∈ VS_h5) => hts w (List.mem_cons_of_mem _ h)
  have hown : s.vm.findClass RX13 = some m.cls := findClass_of_methodNamed B.named
  have hlocks := B.notSynchronized
  subst hsz
  have hD := hD0.self (sz := s.heap.size)
  generalize hAe : va_A [(h0, .inr (13, zs)), (qf92, .inl (cf92, 8, .inl f92)), (qf91, .inl (cf91, 48000, .inl f91))] s.heap.size = A at hD  ⊢
  have hA : ∀ q : Nat, s.heap.size ≤ q → A q := fun q h => by rw [← hAe]; exact Or.inr h
  have hP : va_P (dC, dI) vwCl [(h0, .inr (13, zs)), (qf92, .inl (cf92, 8, .inl f92)), (qf91, .inl (cf91, 48000, .inl f91))] s.heap := hP
  have hl := lv_entry ([.ref h0, .int a1, .int a2]) (n := 3) (Nat.le_of_ble_eq_true rfl)
  rw [lg_entry_eq]
  generalize (lg_sl ([.ref h0, .int a1, .int a2]) ++ List.replicate (3 - (lg_sl ([.ref h0, .int a1, .int a2])).length) Slot.unset).toArray = ls at hl ⊢
  have hl : lv_has ls 3 [(0, .ref h0), (1, .int a1), (2, .int a2)] := hl
  obtain ⟨H, hH⟩ : ∃ H : Heap, s.heap = H := ⟨_, rfl⟩
  rw [hH] at hP ⊢
  have hS : va_S A s.heap H [] := by rw [← hH]; exact va_S.rf
  obtain ⟨locs, hlo⟩ : ∃ locs : List Loc, locs = [] := ⟨_, rfl⟩
  rw [← hlo] at hS ⊢
  have hrs0 : ∀ j : Nat, zs[j]? = zs[j]? := fun _  => rfl
  unfold sp_tm_image at hsp
  refine lv_iload_n hx hb dX13_image_0 rfl (lv_at hl 1 rfl) ?_
  refine lv_if_lt (tgt := 27) hx hb dX13_image_1 (by decide) (fun c_1 => ?_) (fun c_1 => ?_)
  · rw [if_pos c_1] at hsp
    refine lv_iconst (v := (-1)) hx hb dX13_image_27 (by decide) ?_
    have hr0 := Option.some.inj hsp
    clear hsp
    subst hr0
    have hP9 := hP.sub (ws' := [(h0, .inr (13, zs)), (qf92, .inl (cf92, 8, .inl f92)), (qf91, .inl (cf91, 48000, .inl f91))]) [0, 1, 2] rfl
    have hD9 := hD.sub (ws' := [(h0, .inr (13, zs)), (qf92, .inl (cf92, 8, .inl f92)), (qf91, .inl (cf91, 48000, .inl f91))]) [0, 1, 2] (by decide) rfl
    have hK9 := hK.sub (tys' := [(cf92, .int), (cf91, .int)]) [0, 1] rfl
    exact W.iret hx hb hr (fun t ht hW => ⟨⟨((-1)), (zs), rfl, ⟨rfl, hlen, hrs0⟩, by rw [ht]; exact hP9, va_K.moved hW.alike hK9, hD9⟩, hS.F ht⟩) hS.2.2 dX13_image_28
  · rw [if_neg c_1] at hsp
    refine lv_iload_n hx hb dX13_image_4 rfl (lv_at hl 1 rfl) ?_
    refine lv_aload_n hx hb dX13_image_5 rfl (lv_at hl 0 rfl) ?_
    refine va_get (D := (dC, dI)) (ci := 13) (v := .int v93) (C := RX13) (T := TX13) (N := 155) hx hb hts uV_h5_X13 hown hK hP 0 rfl rfl 93 (by decide) (hts (.fieldLink RX13 761 "ClassMillModel" "imageMany" "I") mw_h5_82) (fun _ h9 => h9) hf93 dX13_image_6 ?_
    refine lv_icmp_ge (tgt := 27) hx hb dX13_image_9 (by decide) (fun c_2 => ?_) (fun c_2 => ?_)
    · rw [if_pos c_2] at hsp
      refine lv_iconst (v := (-1)) hx hb dX13_image_27 (by decide) ?_
      have hr0 := Option.some.inj hsp
      clear hsp
      subst hr0
      have hP9 := hP.sub (ws' := [(h0, .inr (13, zs)), (qf92, .inl (cf92, 8, .inl f92)), (qf91, .inl (cf91, 48000, .inl f91))]) [0, 1, 2] rfl
      have hD9 := hD.sub (ws' := [(h0, .inr (13, zs)), (qf92, .inl (cf92, 8, .inl f92)), (qf91, .inl (cf91, 48000, .inl f91))]) [0, 1, 2] (by decide) rfl
      have hK9 := hK.sub (tys' := [(cf92, .int), (cf91, .int)]) [0, 1] rfl
      exact W.iret hx hb hr (fun t ht hW => ⟨⟨((-1)), (zs), rfl, ⟨rfl, hlen, hrs0⟩, by rw [ht]; exact hP9, va_K.moved hW.alike hK9, hD9⟩, hS.F ht⟩) hS.2.2 dX13_image_28
    · rw [if_neg c_2] at hsp
      refine lv_iload_n hx hb dX13_image_12 rfl (lv_at hl 2 rfl) ?_
      refine lv_iconst (v := (-1)) hx hb dX13_image_13 (by decide) ?_
      refine lv_icmp_lt (tgt := 27) hx hb dX13_image_14 (by decide) (fun c_3 => ?_) (fun c_3 => ?_)
      · rw [if_pos c_3] at hsp
        refine lv_iconst (v := (-1)) hx hb dX13_image_27 (by decide) ?_
        have hr0 := Option.some.inj hsp
        clear hsp
        subst hr0
        have hP9 := hP.sub (ws' := [(h0, .inr (13, zs)), (qf92, .inl (cf92, 8, .inl f92)), (qf91, .inl (cf91, 48000, .inl f91))]) [0, 1, 2] rfl
        have hD9 := hD.sub (ws' := [(h0, .inr (13, zs)), (qf92, .inl (cf92, 8, .inl f92)), (qf91, .inl (cf91, 48000, .inl f91))]) [0, 1, 2] (by decide) rfl
        have hK9 := hK.sub (tys' := [(cf92, .int), (cf91, .int)]) [0, 1] rfl
        exact W.iret hx hb hr (fun t ht hW => ⟨⟨((-1)), (zs), rfl, ⟨rfl, hlen, hrs0⟩, by rw [ht]; exact hP9, va_K.moved hW.alike hK9, hD9⟩, hS.F ht⟩) hS.2.2 dX13_image_28
      · rw [if_neg c_3] at hsp
        refine lv_iload_n hx hb dX13_image_17 rfl (lv_at hl 2 rfl) ?_
        refine lv_aload_n hx hb dX13_image_18 rfl (lv_at hl 0 rfl) ?_
        refine va_get (D := (dC, dI)) (ci := 13) (v := .ref qf92) (C := RX13) (T := TX13) (N := 155) hx hb hts uV_h5_X13 hown hK hP 0 rfl rfl 92 (by decide) (hts (.fieldLink RX13 197 "ClassMillModel" "imageSize" "[I") mw_h5_83) (fun _ h9 => h9) hf92 dX13_image_19 ?_
        refine lv_iload_n hx hb dX13_image_22 rfl (lv_at hl 1 rfl) ?_
        obtain ⟨hi_4, hsp⟩ := ox_in hsp
        refine va_iald hx hb hK hP 1 0 rfl rfl (i := a1) hi_4 dX13_image_23 ?_
        refine lv_icmp_lt (tgt := 29) hx hb dX13_image_24 (by decide) (fun c_5 => ?_) (fun c_5 => ?_)
        · rw [if_pos c_5] at hsp
          refine lv_iload_n hx hb dX13_image_29 rfl (lv_at hl 2 rfl) ?_
          refine lv_iconst (v := (-1)) hx hb dX13_image_30 (by decide) ?_
          refine lv_icmp_ne (tgt := 43) hx hb dX13_image_31 (by decide) (fun c_6 => ?_) (fun c_6 => ?_)
          · rw [if_neg c_6] at hsp
            refine lv_aload_n hx hb dX13_image_43 rfl (lv_at hl 0 rfl) ?_
            refine va_get (D := (dC, dI)) (ci := 13) (v := .ref qf91) (C := RX13) (T := TX13) (N := 155) hx hb hts uV_h5_X13 hown hK hP 0 rfl rfl 91 (by decide) (hts (.fieldLink RX13 194 "ClassMillModel" "images" "[I") mw_h5_84) (fun _ h9 => h9) hf91 dX13_image_44 ?_
            refine lv_sipush (v := 6000) hx hb dX13_image_47 (by decide) ?_
            refine lv_iload_n hx hb dX13_image_50 rfl (lv_at hl 1 rfl) ?_
            refine lv_imul hx hb dX13_image_51 ?_
            refine lv_iload_n hx hb dX13_image_52 rfl (lv_at hl 2 rfl) ?_
            refine lv_iadd hx hb dX13_image_53 ?_
            obtain ⟨hi_7, hsp⟩ := ox_in hsp
            refine va_iald hx hb hK hP 2 1 rfl rfl (i := ((6000 * a1) + a2)) hi_7 dX13_image_54 ?_
            have hr0 := Option.some.inj hsp
            clear hsp
            subst hr0
            have hP9 := hP.sub (ws' := [(h0, .inr (13, zs)), (qf92, .inl (cf92, 8, .inl f92)), (qf91, .inl (cf91, 48000, .inl f91))]) [0, 1, 2] rfl
            have hD9 := hD.sub (ws' := [(h0, .inr (13, zs)), (qf92, .inl (cf92, 8, .inl f92)), (qf91, .inl (cf91, 48000, .inl f91))]) [0, 1, 2] (by decide) rfl
            have hK9 := hK.sub (tys' := [(cf92, .int), (cf91, .int)]) [0, 1] rfl
            exact W.iret hx hb hr (fun t ht hW => ⟨⟨((f91 (((6000 * a1) + a2) : Int32).toNatClampNeg)), (zs), rfl, ⟨rfl, hlen, hrs0⟩, by rw [ht]; exact hP9, va_K.moved hW.alike hK9, hD9⟩, hS.F ht⟩) hS.2.2 dX13_image_55
          · rw [if_pos c_6] at hsp
            refine lv_aload_n hx hb dX13_image_34 rfl (lv_at hl 0 rfl) ?_
            refine va_get (D := (dC, dI)) (ci := 13) (v := .ref qf92) (C := RX13) (T := TX13) (N := 155) hx hb hts uV_h5_X13 hown hK hP 0 rfl rfl 92 (by decide) (hts (.fieldLink RX13 197 "ClassMillModel" "imageSize" "[I") mw_h5_83) (fun _ h9 => h9) hf92 dX13_image_35 ?_
            refine lv_iload_n hx hb dX13_image_38 rfl (lv_at hl 1 rfl) ?_
            obtain ⟨hi_8, hsp⟩ := ox_in hsp
            refine va_iald hx hb hK hP 1 0 rfl rfl (i := a1) hi_8 dX13_image_39 ?_
            refine lv_goto (tgt := 55) hx hb dX13_image_40 (by decide) ?_
            have hr0 := Option.some.inj hsp
            clear hsp
            subst hr0
            have hP9 := hP.sub (ws' := [(h0, .inr (13, zs)), (qf92, .inl (cf92, 8, .inl f92)), (qf91, .inl (cf91, 48000, .inl f91))]) [0, 1, 2] rfl
            have hD9 := hD.sub (ws' := [(h0, .inr (13, zs)), (qf92, .inl (cf92, 8, .inl f92)), (qf91, .inl (cf91, 48000, .inl f91))]) [0, 1, 2] (by decide) rfl
            have hK9 := hK.sub (tys' := [(cf92, .int), (cf91, .int)]) [0, 1] rfl
            exact W.iret hx hb hr (fun t ht hW => ⟨⟨((f92 (a1 : Int32).toNatClampNeg)), (zs), rfl, ⟨rfl, hlen, hrs0⟩, by rw [ht]; exact hP9, va_K.moved hW.alike hK9, hD9⟩, hS.F ht⟩) hS.2.2 dX13_image_55
        · rw [if_neg c_5] at hsp
          refine lv_iconst (v := (-1)) hx hb dX13_image_27 (by decide) ?_
          have hr0 := Option.some.inj hsp
          clear hsp
          subst hr0
          have hP9 := hP.sub (ws' := [(h0, .inr (13, zs)), (qf92, .inl (cf92, 8, .inl f92)), (qf91, .inl (cf91, 48000, .inl f91))]) [0, 1, 2] rfl
          have hD9 := hD.sub (ws' := [(h0, .inr (13, zs)), (qf92, .inl (cf92, 8, .inl f92)), (qf91, .inl (cf91, 48000, .inl f91))]) [0, 1, 2] (by decide) rfl
          have hK9 := hK.sub (tys' := [(cf92, .int), (cf91, .int)]) [0, 1] rfl
          exact W.iret hx hb hr (fun t ht hW => ⟨⟨((-1)), (zs), rfl, ⟨rfl, hlen, hrs0⟩, by rw [ht]; exact hP9, va_K.moved hW.alike hK9, hD9⟩, hS.F ht⟩) hS.2.2 dX13_image_28
def sp_tm_isByte (nf : Nat) (a1 : Int32) (v113 : Int32) (v114 : Int32) : Option (Int32 × Int32) := (if v114 = (-1) then (if a1 < v113 then (if v114 = (-1) then (some (1, v114)) else (some (0, v114))) else (if v113 = (-1) then (some (1, v113)) else (some (0, v113)))) else (some (0, v114)))
set_option maxHeartbeats 4000000 in
set_option maxRecDepth 100000 in
/-- ClassMillModel.isByte -/
theorem tm_isByte (l : Launch) (dC : Nat → ClassId) (dI : Nat → Nat → Nat) (sz : Nat) (h0 : Nat) (zs : (List Value)) (a1 : Int32) (v113 : Int32) (v114 : Int32) (nf : Nat) (r0 : Int32) (w114 : Int32) (hlen : zs.length = 155) (hf113 : zs[113]? = some (.int v113)) (hf114 : zs[114]? = some (.int v114)) (hsp : sp_tm_isByte nf a1 v113 v114 = some (r0, w114)) : Met l yX13_isByte (.code yX13_isByte cX13_isByte 2 (some .boolean) :: VS_h5) ({ frames := 0, cells := 0, slots := 0, locals := 0 }) (va_Pc [.ref h0, .int a1] (fun U => U.heap.size = sz ∧ va_P (dC, dI) vwCl [(h0, .inr (13, zs))] U.heap ∧ va_K (dC, dI) vwCl [] U ∧ va_D (fun _ => True) [(h0, .inr (13, zs))])) (va_Qi (fun (r : Int32) (u : (List Value)) => match u with | (zo1) => (r0 = r ∧ (r0 = 0 ∨ r0 = 1)) ∧ zo1.length = 155 ∧ (∀ j : Nat, j ≠ 114 → zo1[j]? = zs[j]?) ∧ zo1[114]? = some (.int w114)) (fun (u : (List Value)) (t : State) => match u with | (zo1) => va_P (dC, dI) vwCl [(h0, .inr (13, zo1))] t.heap ∧ va_K (dC, dI) vwCl [] t ∧ va_D (va_A [(h0, .inr (13, zs))] sz) [(h0, .inr (13, zo1))]) (va_A [(h0, .inr (13, zs))] sz)) 0 0 (va_A [(h0, .inr (13, zs))] sz) := by
  refine Met.ofW (cc := cX13_isByte) (maxL := 2) (ret := (some .boolean)) (by decide) rfl ?_
  intro p e s m args below meth c s₁ B hml hv
  obtain ⟨rfl, hsz, hP, hK, hD0⟩ := hv
  have hx := B.exec
  have hb := B.bytes
  have hr := B.returns
  have hts := atoms_spec (ws := (.code yX13_isByte cX13_isByte 2 (some .boolean) :: VS_h5)) B.pre
  replace hts := fun w (h : w ∈ VS_h5) => hts w (List.mem_cons_of_mem _ h)
  have hown : s.vm.findClass RX13 = some m.cls := findClass_of_methodNamed B.named
  have hlocks := B.notSynchronized
  subst hsz
  have hD := hD0.self (sz := s.heap.size)
  generalize hAe : va_A [(h0, .inr (13, zs))] s.heap.size = A at hD  ⊢
  have hA : ∀ q : Nat, s.heap.size ≤ q → A q := fun q h => by rw [← hAe]; exact Or.inr h
  have hP : va_P (dC, dI) vwCl [(h0, .inr (13, zs))] s.heap := hP
  have hl := lv_entry ([.ref h0, .int a1]) (n := 2) (Nat.le_of_ble_eq_true rfl)
  rw [lg_entry_eq]
  generalize (lg_sl ([.ref h0, .int a1]) ++ List.replicate (2 - (lg_sl ([.ref h0, .int a1])).length) Slot.unset).toArray = ls at hl ⊢
  have hl : lv_has ls 2 [(0, .ref h0), (1, .int a1)] := hl
  obtain ⟨H, hH⟩ : ∃ H : Heap, s.heap = H := ⟨_, rfl⟩
  rw [hH] at hP ⊢
  have hS : va_S A s.heap H [] := by rw [← hH]; exact va_S.rf
  obtain ⟨locs, hlo⟩ : ∃ locs : List Loc, locs = [] := ⟨_, rfl⟩
  rw [← hlo] at hS ⊢
  have hrs0 : ∀ j : Nat, j ≠ 114 → zs[j]? = zs[j]? := fun _ _  => rfl
  unfold sp_tm_isByte at hsp
  refine lv_aload_n hx hb dX13_isByte_0 rfl (lv_at hl 0 rfl) ?_
  refine va_get (D := (dC, dI)) (ci := 13) (v := .int v114) (C := RX13) (T := TX13) (N := 155) hx hb hts uV_h5_X13 hown hK hP 0 rfl rfl 114 (by decide) (hts (.fieldLink RX13 764 "ClassMillModel" "form" "I") mw_h5_85) (fun _ h9 => h9) hf114 dX13_isByte_1 ?_
  refine lv_iconst (v := (-1)) hx hb dX13_isByte_4 (by decide) ?_
  refine lv_icmp_eq (tgt := 10) hx hb dX13_isByte_5 (by decide) (fun c_1 => ?_) (fun c_1 => ?_)
  · rw [if_pos c_1] at hsp
    refine lv_iload_n hx hb dX13_isByte_10 rfl (lv_at hl 1 rfl) ?_
    refine lv_aload_n hx hb dX13_isByte_11 rfl (lv_at hl 0 rfl) ?_
    refine va_get (D := (dC, dI)) (ci := 13) (v := .int v113) (C := RX13) (T := TX13) (N := 155) hx hb hts uV_h5_X13 hown hK hP 0 rfl rfl 113 (by decide) (hts (.fieldLink RX13 767 "ClassMillModel" "lookSize" "I") mw_h5_86) (fun _ h9 => h9) hf113 dX13_isByte_12 ?_
    refine lv_icmp_lt (tgt := 26) hx hb dX13_isByte_15 (by decide) (fun c_2 => ?_) (fun c_2 => ?_)
    · rw [if_pos c_2] at hsp
      refine lv_aload_n hx hb dX13_isByte_26 rfl (lv_at hl 0 rfl) ?_
      refine va_get (D := (dC, dI)) (ci := 13) (v := .int v114) (C := RX13) (T := TX13) (N := 155) hx hb hts uV_h5_X13 hown hK hP 0 rfl rfl 114 (by decide) (hts (.fieldLink RX13 764 "ClassMillModel" "form" "I") mw_h5_85) (fun _ h9 => h9) hf114 dX13_isByte_27 ?_
      refine lv_iconst (v := (-1)) hx hb dX13_isByte_30 (by decide) ?_
      refine lv_icmp_ne (tgt := 38) hx hb dX13_isByte_31 (by decide) (fun c_3 => ?_) (fun c_3 => ?_)
      · rw [if_neg c_3] at hsp
        refine lv_iconst (v := 0) hx hb dX13_isByte_38 (by decide) ?_
        have hr0 := Option.some.inj hsp
        clear hsp
        obtain ⟨hq0, hr1⟩ := Prod.mk.inj hr0
        clear hr0
        subst hq0
        subst hr1
        have hP9 := hP.sub (ws' := [(h0, .inr (13, zs))]) [0] rfl
        have hD9 := hD.sub (ws' := [(h0, .inr (13, zs))]) [0] (by decide) rfl
        have hK9 := hK.sub (tys' := []) [] rfl
        exact W.zret hx hb hr (by decide) (fun t ht hW => ⟨⟨(0), (zs), rfl, ⟨⟨rfl, Or.inl rfl⟩, hlen, hrs0, hf114⟩, by rw [ht]; exact hP9, va_K.moved hW.alike hK9, hD9⟩, hS.F ht⟩) hS.2.2 dX13_isByte_39
      · rw [if_pos c_3] at hsp
        refine lv_iconst (v := 1) hx hb dX13_isByte_34 (by decide) ?_
        refine lv_goto (tgt := 39) hx hb dX13_isByte_35 (by decide) ?_
        have hr0 := Option.some.inj hsp
        clear hsp
        obtain ⟨hq0, hr1⟩ := Prod.mk.inj hr0
        clear hr0
        subst hq0
        subst hr1
        have hP9 := hP.sub (ws' := [(h0, .inr (13, zs))]) [0] rfl
        have hD9 := hD.sub (ws' := [(h0, .inr (13, zs))]) [0] (by decide) rfl
        have hK9 := hK.sub (tys' := []) [] rfl
        exact W.zret hx hb hr (by decide) (fun t ht hW => ⟨⟨(1), (zs), rfl, ⟨⟨rfl, Or.inr rfl⟩, hlen, hrs0, hf114⟩, by rw [ht]; exact hP9, va_K.moved hW.alike hK9, hD9⟩, hS.F ht⟩) hS.2.2 dX13_isByte_39
    · rw [if_neg c_2] at hsp
      refine lv_aload_n hx hb dX13_isByte_18 rfl (lv_at hl 0 rfl) ?_
      refine lv_aload_n hx hb dX13_isByte_19 rfl (lv_at hl 0 rfl) ?_
      refine va_get (D := (dC, dI)) (ci := 13) (v := .int v113) (C := RX13) (T := TX13) (N := 155) hx hb hts uV_h5_X13 hown hK hP 0 rfl rfl 113 (by decide) (hts (.fieldLink RX13 767 "ClassMillModel" "lookSize" "I") mw_h5_86) (fun _ h9 => h9) hf113 dX13_isByte_20 ?_
      refine va_put (D := (dC, dI)) (ci := 13) (v := .int v113) (ty := .int) (C := RX13) (T := TX13) (N := 155) hx hb hts uV_h5_X13 tyX13 tyX13_ok nmX13 hown hK hP hD hS 0 rfl rfl 114 (by decide) (hts (.fieldLink RX13 764 "ClassMillModel" "form" "I") mw_h5_85) (fun _ h9 => h9) rfl (by decide +kernel) rfl rfl (by rw [hlen]; decide) dX13_isByte_23 ?_
      clear hP hD hS
      intro H locs hP hD hS
      obtain ⟨fs_4, efs_4⟩ : ∃ zf : List Value, zf = zs.set 114 (.int v113) := ⟨_, rfl⟩
      rw [← efs_4] at hP hD
      have hlfs_4 : fs_4.length = 155 := by rw [efs_4, List.length_set]; exact hlen
      have hfs_4_113 : fs_4[113]? = some (.int v113) := by rw [efs_4, List.getElem?_set_ne (by decide)]; exact hf113
      have hfs_4_114 : fs_4[114]? = some (.int v113) := by rw [efs_4, List.getElem?_set_self (by rw [hlen]; decide)]
      replace hP : va_P (dC, dI) vwCl [(h0, .inr (13, fs_4))] H := hP
      replace hD : va_D A [(h0, .inr (13, fs_4))] := hD
      have hrs_5 : ∀ j : Nat, j ≠ 114 → fs_4[j]? = zs[j]? := fun j g114 => ((congrArg (fun z : List Value => z[j]?) efs_4).trans (List.getElem?_set_ne (Ne.symm g114))).trans (hrs0 j g114)
      refine lv_aload_n hx hb dX13_isByte_26 rfl (lv_at hl 0 rfl) ?_
      refine va_get (D := (dC, dI)) (ci := 13) (v := .int v113) (C := RX13) (T := TX13) (N := 155) hx hb hts uV_h5_X13 hown hK hP 0 rfl rfl 114 (by decide) (hts (.fieldLink RX13 764 "ClassMillModel" "form" "I") mw_h5_85) (fun _ h9 => h9) hfs_4_114 dX13_isByte_27 ?_
      refine lv_iconst (v := (-1)) hx hb dX13_isByte_30 (by decide) ?_
      refine lv_icmp_ne (tgt := 38) hx hb dX13_isByte_31 (by decide) (fun c_6 => ?_) (fun c_6 => ?_)
      · rw [if_neg c_6] at hsp
        refine lv_iconst (v := 0) hx hb dX13_isByte_38 (by decide) ?_
        have hr0 := Option.some.inj hsp
        clear hsp
        obtain ⟨hq0, hr1⟩ := Prod.mk.inj hr0
        clear hr0
        subst hq0
        subst hr1
        have hP9 := hP.sub (ws' := [(h0, .inr (13, fs_4))]) [0] rfl
        have hD9 := hD.sub (ws' := [(h0, .inr (13, fs_4))]) [0] (by decide) rfl
        have hK9 := hK.sub (tys' := []) [] rfl
        exact W.zret hx hb hr (by decide) (fun t ht hW => ⟨⟨(0), (fs_4), rfl, ⟨⟨rfl, Or.inl rfl⟩, hlfs_4, hrs_5, hfs_4_114⟩, by rw [ht]; exact hP9, va_K.moved hW.alike hK9, hD9⟩, hS.F ht⟩) hS.2.2 dX13_isByte_39
      · rw [if_pos c_6] at hsp
        refine lv_iconst (v := 1) hx hb dX13_isByte_34 (by decide) ?_
        refine lv_goto (tgt := 39) hx hb dX13_isByte_35 (by decide) ?_
        have hr0 := Option.some.inj hsp
        clear hsp
        obtain ⟨hq0, hr1⟩ := Prod.mk.inj hr0
        clear hr0
        subst hq0
        subst hr1
        have hP9 := hP.sub (ws' := [(h0, .inr (13, fs_4))]) [0] rfl
        have hD9 := hD.sub (ws' := [(h0, .inr (13, fs_4))]) [0] (by decide) rfl
        have hK9 := hK.sub (tys' := []) [] rfl
        exact W.zret hx hb hr (by decide) (fun t ht hW => ⟨⟨(1), (fs_4), rfl, ⟨⟨rfl, Or.inr rfl⟩, hlfs_4, hrs_5, hfs_4_114⟩, by rw [ht]; exact hP9, va_K.moved hW.alike hK9, hD9⟩, hS.F ht⟩) hS.2.2 dX13_isByte_39
  · rw [if_neg c_1] at hsp
    refine lv_iconst (v := 0) hx hb dX13_isByte_8 (by decide) ?_
    have hr0 := Option.some.inj hsp
    clear hsp
    obtain ⟨hq0, hr1⟩ := Prod.mk.inj hr0
    clear hr0
    subst hq0
    subst hr1
    have hP9 := hP.sub (ws' := [(h0, .inr (13, zs))]) [0] rfl
    have hD9 := hD.sub (ws' := [(h0, .inr (13, zs))]) [0] (by decide) rfl
    have hK9 := hK.sub (tys' := []) [] rfl
    exact W.zret hx hb hr (by decide) (fun t ht hW => ⟨⟨(0), (zs), rfl, ⟨⟨rfl, Or.inl rfl⟩, hlen, hrs0, hf114⟩, by rw [ht]; exact hP9, va_K.moved hW.alike hK9, hD9⟩, hS.F ht⟩) hS.2.2 dX13_isByte_9
def sp_tm_unfit (nf : Nat) (a1 : Int32) (v114 : Int32) : Option (Int32) := (if v114 = (-1) then (some a1) else (some v114))
