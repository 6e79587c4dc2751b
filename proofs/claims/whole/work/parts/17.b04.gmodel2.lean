set_option maxHeartbeats 4000000 in
set_option maxRecDepth 100000 in
/-- ClassMillModel.intOf -/
theorem tn_intOf (l : Launch) (dC : Nat → ClassId) (dI : Nat → Nat → Nat) (sz : Nat) (h0 : Nat) (zs : (List Value)) (a1 : Int32) (qf100 : Nat) (qf102 : Nat) (v149 : Int32) (qf150 : Nat) (cf150 : ClassId) (f150 : (Nat → Int32)) (cf102 : ClassId) (f102 : (Nat → Int32)) (cf100 : ClassId) (f100 : (Nat → Int32)) (nf : Nat) (r0 : Int32) (hlen : zs.length = 155) (hf100 : zs[100]? = some (.ref qf100)) (hf102 : zs[102]? = some (.ref qf102)) (hf149 : zs[149]? = some (.int v149)) (hf150 : zs[150]? = some (.ref qf150)) (hsp : sp_tn_intOf nf a1 v149 f150 f102 f100 = some r0) : Met l yX13_intOf (.code yX13_intOf cX13_intOf 4 (some .int) :: VS_h6) ({ frames := 1, cells := 0, slots := 0, locals := 22 }) (va_Pc [.ref h0, .int a1] (fun U => U.heap.size = sz ∧ va_P (dC, dI) vwCl [(h0, .inr (13, zs)), (qf150, .inl (cf150, 60, .inl f150)), (qf102, .inl (cf102, 2048, .inl f102)), (qf100, .inl (cf100, 48000, .inl f100))] U.heap ∧ va_K (dC, dI) vwCl [(cf150, .int), (cf102, .int), (cf100, .int)] U ∧ va_D (fun _ => True) [(h0, .inr (13, zs)), (qf150, .inl (cf150, 60, .inl f150)), (qf102, .inl (cf102, 2048, .inl f102)), (qf100, .inl (cf100, 48000, .inl f100))])) (va_Qi (fun (r : Int32) (u : (List Value)) => match u with | (zo1) => r0 = r ∧ zo1.length = 155 ∧ (∀ j : Nat, zo1[j]? = zs[j]?)) (fun (u : (List Value)) (t : State) => match u with | (zo1) => va_P (dC, dI) vwCl [(h0, .inr (13, zo1)), (qf150, .inl (cf150, 60, .inl f150)), (qf102, .inl (cf102, 2048, .inl f102)), (qf100, .inl (cf100, 48000, .inl f100))] t.heap ∧ va_K (dC, dI) vwCl [(cf150, .int), (cf102, .int), (cf100, .int)] t ∧ va_D (va_A [(h0, .inr (13, zs)), (qf150, .inl (cf150, 60, .inl f150)), (qf102, .inl (cf102, 2048, .inl f102)), (qf100, .inl (cf100, 48000, .inl f100))] sz) [(h0, .inr (13, zo1)), (qf150, .inl (cf150, 60, .inl f150)), (qf102, .inl (cf102, 2048, .inl f102)), (qf100, .inl (cf100, 48000, .inl f100))]) (va_A [(h0, .inr (13, zs)), (qf150, .inl (cf150, 60, .inl f150)), (qf102, .inl (cf102, 2048, .inl f102)), (qf100, .inl (cf100, 48000, .inl f100))] sz)) 0 0 (va_A [(h0, .inr (13, zs)), (qf150, .inl (cf150, 60, .inl f150)), (qf102, .inl (cf102, 2048, .inl f102)), (qf100, .inl (cf100, 48000, .inl f100))] sz) := by
  refine Met.ofW (cc := cX13_intOf) (maxL := 4) (ret := (some .int)) (by decide) rfl ?_
  intro p e s m args below meth c s₁ B hml hv
  obtain ⟨rfl, hsz, hP, hK, hD0⟩ := hv
  have hx := B.exec
  have hb := B.bytes
  have hr := B.returns
  have hts := atoms_spec (ws := (.code yX13_intOf cX13_intOf 4 (some .int) :: VS_h6)) B.pre
  replace hts := fun w (h : w ∈ VS_h6) => hts w (List.mem_cons_of_mem _ h)
  have hown : s.vm.findClass RX13 = some m.cls := findClass_of_methodNamed B.named
  have hlocks := B.notSynchronized
  subst hsz
  have hD := hD0.self (sz := s.heap.size)
  generalize hAe : va_A [(h0, .inr (13, zs)), (qf150, .inl (cf150, 60, .inl f150)), (qf102, .inl (cf102, 2048, .inl f102)), (qf100, .inl (cf100, 48000, .inl f100))] s.heap.size = A at hD  ⊢
  have hA : ∀ q : Nat, s.heap.size ≤ q → A q := fun q h => by rw [← hAe]; exact Or.inr h
  have hP : va_P (dC, dI) vwCl [(h0, .inr (13, zs)), (qf150, .inl (cf150, 60, .inl f150)), (qf102, .inl (cf102, 2048, .inl f102)), (qf100, .inl (cf100, 48000, .inl f100))] s.heap := hP
  have hl := lv_entry ([.ref h0, .int a1]) (n := 4) (Nat.le_of_ble_eq_true rfl)
  rw [lg_entry_eq]
  generalize (lg_sl ([.ref h0, .int a1]) ++ List.replicate (4 - (lg_sl ([.ref h0, .int a1])).length) Slot.unset).toArray = ls at hl ⊢
  have hl : lv_has ls 4 [(0, .ref h0), (1, .int a1)] := hl
  obtain ⟨H, hH⟩ : ∃ H : Heap, s.heap = H := ⟨_, rfl⟩
  rw [hH] at hP ⊢
  have hS : va_S A s.heap H [] := by rw [← hH]; exact va_S.rf
  obtain ⟨locs, hlo⟩ : ∃ locs : List Loc, locs = [] := ⟨_, rfl⟩
  rw [← hlo] at hS ⊢
  have hrs0 : ∀ j : Nat, zs[j]? = zs[j]? := fun _  => rfl
  unfold sp_tn_intOf at hsp
  refine lv_aload_n hx hb dX13_intOf_0 rfl (lv_at hl 0 rfl) ?_
  refine va_get (D := (dC, dI)) (ci := 13) (v := .ref qf150) (C := RX13) (T := TX13) (N := 155) hx hb hts uV_h6_X13 hown hK hP 0 rfl rfl 150 (by decide) (hts (.fieldLink RX13 294 "ClassMillModel" "runClass" "[I") mw_h6_137) (fun _ h9 => h9) hf150 dX13_intOf_1 ?_
  refine lv_aload_n hx hb dX13_intOf_4 rfl (lv_at hl 0 rfl) ?_
  refine va_get (D := (dC, dI)) (ci := 13) (v := .int v149) (C := RX13) (T := TX13) (N := 155) hx hb hts uV_h6_X13 hown hK hP 0 rfl rfl 149 (by decide) (hts (.fieldLink RX13 1058 "ClassMillModel" "depth" "I") mw_h6_138) (fun _ h9 => h9) hf149 dX13_intOf_5 ?_
  refine lv_iconst (v := 1) hx hb dX13_intOf_8 (by decide) ?_
  refine lv_isub hx hb dX13_intOf_9 ?_
  obtain ⟨hi_1, hsp⟩ := ox_in hsp
  refine va_iald hx hb hK hP 1 0 rfl rfl (i := (v149 - 1)) hi_1 dX13_intOf_10 ?_
  refine lv_bipush (v := 8) hx hb dX13_intOf_11 (by decide) ?_
  refine lv_isub hx hb dX13_intOf_13 ?_
  refine lv_istore_n (lv' := [(2, .int ((f150 ((v149 - 1) : Int32).toNatClampNeg) - 8)), (0, .ref h0), (1, .int a1)]) hx hb dX13_intOf_14 rfl hl (by decide) rfl (fun ls hl => ?_)
  refine lv_aload_n hx hb dX13_intOf_15 rfl (lv_at hl 1 rfl) ?_
  refine va_get (D := (dC, dI)) (ci := 13) (v := .ref qf102) (C := RX13) (T := TX13) (N := 155) hx hb hts uV_h6_X13 hown hK hP 0 rfl rfl 102 (by decide) (hts (.fieldLink RX13 215 "ClassMillModel" "constantAt" "[I") mw_h6_143) (fun _ h9 => h9) hf102 dX13_intOf_16 ?_
  refine lv_sipush (v := 256) hx hb dX13_intOf_19 (by decide) ?_
  refine lv_iload_n hx hb dX13_intOf_22 rfl (lv_at hl 0 rfl) ?_
  refine lv_imul hx hb dX13_intOf_23 ?_
  refine lv_iload_n hx hb dX13_intOf_24 rfl (lv_at hl 2 rfl) ?_
  refine lv_iadd hx hb dX13_intOf_25 ?_
  obtain ⟨hi_2, hsp⟩ := ox_in hsp
  refine va_iald hx hb hK hP 2 1 rfl rfl (i := ((256 * ((f150 ((v149 - 1) : Int32).toNatClampNeg) - 8)) + a1)) hi_2 dX13_intOf_26 ?_
  refine lv_iconst (v := 1) hx hb dX13_intOf_27 (by decide) ?_
  refine lv_iadd hx hb dX13_intOf_28 ?_
  refine lv_istore_n (lv' := [(3, .int ((f102 (((256 * ((f150 ((v149 - 1) : Int32).toNatClampNeg) - 8)) + a1) : Int32).toNatClampNeg) + 1)), (2, .int ((f150 ((v149 - 1) : Int32).toNatClampNeg) - 8)), (0, .ref h0), (1, .int a1)]) hx hb dX13_intOf_29 rfl hl (by decide) rfl (fun ls hl => ?_)
  refine lv_aload_n hx hb dX13_intOf_30 rfl (lv_at hl 2 rfl) ?_
  refine lv_iload_n hx hb dX13_intOf_31 rfl (lv_at hl 1 rfl) ?_
  refine lv_iload_n hx hb dX13_intOf_32 rfl (lv_at hl 0 rfl) ?_
  obtain ⟨u1_0, hu_1, hsp⟩ := ox_bind hsp
  try dsimp only at hsp
  have hPc := hP.sub (ws' := [(h0, .inr (13, zs)), (qf100, .inl (cf100, 48000, .inl f100))]) [0, 3] rfl
  have hDc := hD.sub (ws' := [(h0, .inr (13, zs)), (qf100, .inl (cf100, 48000, .inl f100))]) [0, 3] (by decide) rfl
  have hKc := hK.sub (tys' := [(cf100, .int)]) [2] rfl
  have hFc := va_free (wc := [(h0, .inr (13, zs)), (qf100, .inl (cf100, 48000, .inl f100))]) hD hS hA [0, 3] rfl
  refine va_calli (va_runV (As := [.int ((f150 ((v149 - 1) : Int32).toNatClampNeg) - 8), .int ((f102 (((256 * ((f150 ((v149 - 1) : Int32).toNatClampNeg) - 8)) + a1) : Int32).toNatClampNeg) + 1)]) (rest := []) ⟨hx, hb, hml, hown, hts⟩ (tm_byteAt l dC dI H.size h0 zs (((f150 ((v149 - 1) : Int32).toNatClampNeg) - 8)) (((f102 (((256 * ((f150 ((v149 - 1) : Int32).toNatClampNeg) - 8)) + a1) : Int32).toNatClampNeg) + 1)) qf100 cf100 f100 nf u1_0 hlen hf100 hu_1) (cwV 2 hts gv_h6_22 rfl rfl rfl (by decide +kernel) ⟨Nat.le_of_ble_eq_true rfl, Nat.le_of_ble_eq_true rfl⟩) ⟨fun a U g mk q => by obtain ⟨q0, q1, qP, qK, qD⟩ := q; exact ⟨q0, q1, qP, va_K.moved (u := U) (U := U.calling g mk a) (Vm.Alike.refl U.vm) qK, qD⟩, va_recv hKc hPc (ci := 13) (q0 := 0) rfl rfl, fun U hU hW => ⟨rfl, by rw [hU], by rw [hU]; exact hPc, va_K.moved hW.alike hKc, hDc.weaken (fun _ _ _ _ => trivial)⟩⟩ rfl rfl hl.1 rfl (lv_room (Nat.le_of_ble_eq_true rfl)) dX13_intOf_33 ⟨Nat.le_of_ble_eq_true rfl, Nat.le_of_ble_eq_true rfl⟩) hS (fun q _ h => hFc q h) hFc ?_
  clear hS
  intro r_3 u t H1 locs ht hvm hw hB hz1 hk1 hS
  obtain ⟨z_1, rfl⟩ : ∃ z, z = u := ⟨_, rfl⟩
  obtain ⟨hP1, hK1, hD1⟩ := hB
  rw [ht] at hP1
  have hK1 := va_K.moved hvm.symm hK1
  try dsimp only at hw
  have hPD := va_join (wr := [(qf150, .inl (cf150, 60, .inl f150)), (qf102, .inl (cf102, 2048, .inl f102))]) (w1 := [(h0, .inr (13, z_1)), (qf100, .inl (cf100, 48000, .inl f100))]) hP hD [0, 3] [1, 2] rfl rfl (by decide) (by decide) hk1 hFc hP1 hD1
  clear hP hD
  obtain ⟨hP, hD⟩ := hPD
  replace hK := (hK.sub (tys' := [(cf150, .int), (cf102, .int)]) [0, 1] rfl).app hK1
  clear hPc hDc hKc hFc hP1 hK1 hD1 hz1 hk1 ht hvm
  generalize H1 = H at hP hS ⊢
  replace hP : va_P (dC, dI) vwCl [(qf150, .inl (cf150, 60, .inl f150)), (qf102, .inl (cf102, 2048, .inl f102)), (h0, .inr (13, z_1)), (qf100, .inl (cf100, 48000, .inl f100))] H := hP
  replace hD : va_D A [(qf150, .inl (cf150, 60, .inl f150)), (qf102, .inl (cf102, 2048, .inl f102)), (h0, .inr (13, z_1)), (qf100, .inl (cf100, 48000, .inl f100))] := hD
  replace hK : va_K (dC, dI) vwCl [(cf150, .int), (cf102, .int), (cf100, .int)] s := hK
  obtain ⟨hwa_1, hln_1, hre_1⟩ := hw
  have hfk_1_100 : z_1[100]? = some (.ref qf100) := (hre_1 100 ).trans (hf100)
  have hfk_1_102 : z_1[102]? = some (.ref qf102) := (hre_1 102 ).trans (hf102)
  have hfk_1_149 : z_1[149]? = some (.int v149) := (hre_1 149 ).trans (hf149)
  have hfk_1_150 : z_1[150]? = some (.ref qf150) := (hre_1 150 ).trans (hf150)
  have hrq_1 : ∀ j : Nat, z_1[j]? = zs[j]? := fun j  => (hre_1 j ).trans (hrs0 j )
  obtain rfl := hwa_1
  refine lv_bipush (v := 24) hx hb dX13_intOf_36 (by decide) ?_
  refine lv_ishl hx hb dX13_intOf_38 ?_
  refine lv_aload_n hx hb dX13_intOf_39 rfl (lv_at hl 2 rfl) ?_
  refine lv_iload_n hx hb dX13_intOf_40 rfl (lv_at hl 1 rfl) ?_
  refine lv_iload_n hx hb dX13_intOf_41 rfl (lv_at hl 0 rfl) ?_
  refine lv_iconst (v := 1) hx hb dX13_intOf_42 (by decide) ?_
  refine lv_iadd hx hb dX13_intOf_43 ?_
  obtain ⟨u2_0, hu_2, hsp⟩ := ox_bind hsp
  try dsimp only at hsp
  have hPc := hP.sub (ws' := [(h0, .inr (13, z_1)), (qf100, .inl (cf100, 48000, .inl f100))]) [2, 3] rfl
  have hDc := hD.sub (ws' := [(h0, .inr (13, z_1)), (qf100, .inl (cf100, 48000, .inl f100))]) [2, 3] (by decide) rfl
  have hKc := hK.sub (tys' := [(cf100, .int)]) [2] rfl
  have hFc := va_free (wc := [(h0, .inr (13, z_1)), (qf100, .inl (cf100, 48000, .inl f100))]) hD hS hA [2, 3] rfl
  refine va_calli (va_runV (As := [.int ((f150 ((v149 - 1) : Int32).toNatClampNeg) - 8), .int (((f102 (((256 * ((f150 ((v149 - 1) : Int32).toNatClampNeg) - 8)) + a1) : Int32).toNatClampNeg) + 1) + 1)]) (rest := [.int (u1_0 <<< (24 &&& 31))]) ⟨hx, hb, hml, hown, hts⟩ (tm_byteAt l dC dI H.size h0 z_1 (((f150 ((v149 - 1) : Int32).toNatClampNeg) - 8)) ((((f102 (((256 * ((f150 ((v149 - 1) : Int32).toNatClampNeg) - 8)) + a1) : Int32).toNatClampNeg) + 1) + 1)) qf100 cf100 f100 nf u2_0 hln_1 hfk_1_100 hu_2) (cwV 2 hts gv_h6_22 rfl rfl rfl (by decide +kernel) ⟨Nat.le_of_ble_eq_true rfl, Nat.le_of_ble_eq_true rfl⟩) ⟨fun a U g mk q => by obtain ⟨q0, q1, qP, qK, qD⟩ := q; exact ⟨q0, q1, qP, va_K.moved (u := U) (U := U.calling g mk a) (Vm.Alike.refl U.vm) qK, qD⟩, va_recv hKc hPc (ci := 13) (q0 := 0) rfl rfl, fun U hU hW => ⟨rfl, by rw [hU], by rw [hU]; exact hPc, va_K.moved hW.alike hKc, hDc.weaken (fun _ _ _ _ => trivial)⟩⟩ rfl rfl hl.1 rfl (lv_room (Nat.le_of_ble_eq_true rfl)) dX13_intOf_44 ⟨Nat.le_of_ble_eq_true rfl, Nat.le_of_ble_eq_true rfl⟩) hS (fun q _ h => hFc q h) hFc ?_
  clear hS
  intro r_4 u t H1 locs ht hvm hw hB hz1 hk1 hS
  obtain ⟨z_2, rfl⟩ : ∃ z, z = u := ⟨_, rfl⟩
  obtain ⟨hP1, hK1, hD1⟩ := hB
  rw [ht] at hP1
  have hK1 := va_K.moved hvm.symm hK1
  try dsimp only at hw
  have hPD := va_join (wr := [(qf150, .inl (cf150, 60, .inl f150)), (qf102, .inl (cf102, 2048, .inl f102))]) (w1 := [(h0, .inr (13, z_2)), (qf100, .inl (cf100, 48000, .inl f100))]) hP hD [2, 3] [0, 1] rfl rfl (by decide) (by decide) hk1 hFc hP1 hD1
  clear hP hD
  obtain ⟨hP, hD⟩ := hPD
  replace hK := (hK.sub (tys' := [(cf150, .int), (cf102, .int)]) [0, 1] rfl).app hK1
  clear hPc hDc hKc hFc hP1 hK1 hD1 hz1 hk1 ht hvm
  generalize H1 = H at hP hS ⊢
  replace hP : va_P (dC, dI) vwCl [(qf150, .inl (cf150, 60, .inl f150)), (qf102, .inl (cf102, 2048, .inl f102)), (h0, .inr (13, z_2)), (qf100, .inl (cf100, 48000, .inl f100))] H := hP
  replace hD : va_D A [(qf150, .inl (cf150, 60, .inl f150)), (qf102, .inl (cf102, 2048, .inl f102)), (h0, .inr (13, z_2)), (qf100, .inl (cf100, 48000, .inl f100))] := hD
  replace hK : va_K (dC, dI) vwCl [(cf150, .int), (cf102, .int), (cf100, .int)] s := hK
  obtain ⟨hwa_2, hln_2, hre_2⟩ := hw
  have hfk_2_100 : z_2[100]? = some (.ref qf100) := (hre_2 100 ).trans (hfk_1_100)
  have hfk_2_102 : z_2[102]? = some (.ref qf102) := (hre_2 102 ).trans (hfk_1_102)
  have hfk_2_149 : z_2[149]? = some (.int v149) := (hre_2 149 ).trans (hfk_1_149)
  have hfk_2_150 : z_2[150]? = some (.ref qf150) := (hre_2 150 ).trans (hfk_1_150)
  have hrq_2 : ∀ j : Nat, z_2[j]? = zs[j]? := fun j  => (hre_2 j ).trans (hrq_1 j )
  obtain rfl := hwa_2
  refine lv_bipush (v := 16) hx hb dX13_intOf_47 (by decide) ?_
  refine lv_ishl hx hb dX13_intOf_49 ?_
  refine lv_ior hx hb dX13_intOf_50 ?_
  refine lv_aload_n hx hb dX13_intOf_51 rfl (lv_at hl 2 rfl) ?_
  refine lv_iload_n hx hb dX13_intOf_52 rfl (lv_at hl 1 rfl) ?_
  refine lv_iload_n hx hb dX13_intOf_53 rfl (lv_at hl 0 rfl) ?_
  refine lv_iconst (v := 2) hx hb dX13_intOf_54 (by decide) ?_
  refine lv_iadd hx hb dX13_intOf_55 ?_
  obtain ⟨u3_0, hu_3, hsp⟩ := ox_bind hsp
  try dsimp only at hsp
  have hPc := hP.sub (ws' := [(h0, .inr (13, z_2)), (qf100, .inl (cf100, 48000, .inl f100))]) [2, 3] rfl
  have hDc := hD.sub (ws' := [(h0, .inr (13, z_2)), (qf100, .inl (cf100, 48000, .inl f100))]) [2, 3] (by decide) rfl
  have hKc := hK.sub (tys' := [(cf100, .int)]) [2] rfl
  have hFc := va_free (wc := [(h0, .inr (13, z_2)), (qf100, .inl (cf100, 48000, .inl f100))]) hD hS hA [2, 3] rfl
  refine va_calli (va_runV (As := [.int ((f150 ((v149 - 1) : Int32).toNatClampNeg) - 8), .int (((f102 (((256 * ((f150 ((v149 - 1) : Int32).toNatClampNeg) - 8)) + a1) : Int32).toNatClampNeg) + 1) + 2)]) (rest := [.int ((u1_0 <<< (24 &&& 31)) ||| (u2_0 <<< (16 &&& 31)))]) ⟨hx, hb, hml, hown, hts⟩ (tm_byteAt l dC dI H.size h0 z_2 (((f150 ((v149 - 1) : Int32).toNatClampNeg) - 8)) ((((f102 (((256 * ((f150 ((v149 - 1) : Int32).toNatClampNeg) - 8)) + a1) : Int32).toNatClampNeg) + 1) + 2)) qf100 cf100 f100 nf u3_0 hln_2 hfk_2_100 hu_3) (cwV 2 hts gv_h6_22 rfl rfl rfl (by decide +kernel) ⟨Nat.le_of_ble_eq_true rfl, Nat.le_of_ble_eq_true rfl⟩) ⟨fun a U g mk q => by obtain ⟨q0, q1, qP, qK, qD⟩ := q; exact ⟨q0, q1, qP, va_K.moved (u := U) (U := U.calling g mk a) (Vm.Alike.refl U.vm) qK, qD⟩, va_recv hKc hPc (ci := 13) (q0 := 0) rfl rfl, fun U hU hW => ⟨rfl, by rw [hU], by rw [hU]; exact hPc, va_K.moved hW.alike hKc, hDc.weaken (fun _ _ _ _ => trivial)⟩⟩ rfl rfl hl.1 rfl (lv_room (Nat.le_of_ble_eq_true rfl)) dX13_intOf_56 ⟨Nat.le_of_ble_eq_true rfl, Nat.le_of_ble_eq_true rfl⟩) hS (fun q _ h => hFc q h) hFc ?_
  clear hS
  intro r_5 u t H1 locs ht hvm hw hB hz1 hk1 hS
  obtain ⟨z_3, rfl⟩ : ∃ z, z = u := ⟨_, rfl⟩
  obtain ⟨hP1, hK1, hD1⟩ := hB
  rw [ht] at hP1
  have hK1 := va_K.moved hvm.symm hK1
  try dsimp only at hw
  have hPD := va_join (wr := [(qf150, .inl (cf150, 60, .inl f150)), (qf102, .inl (cf102, 2048, .inl f102))]) (w1 := [(h0, .inr (13, z_3)), (qf100, .inl (cf100, 48000, .inl f100))]) hP hD [2, 3] [0, 1] rfl rfl (by decide) (by decide) hk1 hFc hP1 hD1
  clear hP hD
  obtain ⟨hP, hD⟩ := hPD
  replace hK := (hK.sub (tys' := [(cf150, .int), (cf102, .int)]) [0, 1] rfl).app hK1
  clear hPc hDc hKc hFc hP1 hK1 hD1 hz1 hk1 ht hvm
  generalize H1 = H at hP hS ⊢
  replace hP : va_P (dC, dI) vwCl [(qf150, .inl (cf150, 60, .inl f150)), (qf102, .inl (cf102, 2048, .inl f102)), (h0, .inr (13, z_3)), (qf100, .inl (cf100, 48000, .inl f100))] H := hP
  replace hD : va_D A [(qf150, .inl (cf150, 60, .inl f150)), (qf102, .inl (cf102, 2048, .inl f102)), (h0, .inr (13, z_3)), (qf100, .inl (cf100, 48000, .inl f100))] := hD
  replace hK : va_K (dC, dI) vwCl [(cf150, .int), (cf102, .int), (cf100, .int)] s := hK
  obtain ⟨hwa_3, hln_3, hre_3⟩ := hw
  have hfk_3_100 : z_3[100]? = some (.ref qf100) := (hre_3 100 ).trans (hfk_2_100)
  have hfk_3_102 : z_3[102]? = some (.ref qf102) := (hre_3 102 ).trans (hfk_2_102)
  have hfk_3_149 : z_3[149]? = some (.int v149) := (hre_3 149 ).trans (hfk_2_149)
  have hfk_3_150 : z_3[150]? = some (.ref qf150) := (hre_3 150 ).trans (hfk_2_150)
  have hrq_3 : ∀ j : Nat, z_3[j]? = zs[j]? := fun j  => (hre_3 j ).trans (hrq_2 j )
  obtain rfl := hwa_3
  refine lv_bipush (v := 8) hx hb dX13_intOf_59 (by decide) ?_
  refine lv_ishl hx hb dX13_intOf_61 ?_
  refine lv_ior hx hb dX13_intOf_62 ?_
  refine lv_aload_n hx hb dX13_intOf_63 rfl (lv_at hl 2 rfl) ?_
  refine lv_iload_n hx hb dX13_intOf_64 rfl (lv_at hl 1 rfl) ?_
  refine lv_iload_n hx hb dX13_intOf_65 rfl (lv_at hl 0 rfl) ?_
  refine lv_iconst (v := 3) hx hb dX13_intOf_66 (by decide) ?_
  refine lv_iadd hx hb dX13_intOf_67 ?_
  obtain ⟨u4_0, hu_4, hsp⟩ := ox_bind hsp
  try dsimp only at hsp
  have hPc := hP.sub (ws' := [(h0, .inr (13, z_3)), (qf100, .inl (cf100, 48000, .inl f100))]) [2, 3] rfl
  have hDc := hD.sub (ws' := [(h0, .inr (13, z_3)), (qf100, .inl (cf100, 48000, .inl f100))]) [2, 3] (by decide) rfl
  have hKc := hK.sub (tys' := [(cf100, .int)]) [2] rfl
  have hFc := va_free (wc := [(h0, .inr (13, z_3)), (qf100, .inl (cf100, 48000, .inl f100))]) hD hS hA [2, 3] rfl
  refine va_calli (va_runV (As := [.int ((f150 ((v149 - 1) : Int32).toNatClampNeg) - 8), .int (((f102 (((256 * ((f150 ((v149 - 1) : Int32).toNatClampNeg) - 8)) + a1) : Int32).toNatClampNeg) + 1) + 3)]) (rest := [.int (((u1_0 <<< (24 &&& 31)) ||| (u2_0 <<< (16 &&& 31))) ||| (u3_0 <<< (8 &&& 31)))]) ⟨hx, hb, hml, hown, hts⟩ (tm_byteAt l dC dI H.size h0 z_3 (((f150 ((v149 - 1) : Int32).toNatClampNeg) - 8)) ((((f102 (((256 * ((f150 ((v149 - 1) : Int32).toNatClampNeg) - 8)) + a1) : Int32).toNatClampNeg) + 1) + 3)) qf100 cf100 f100 nf u4_0 hln_3 hfk_3_100 hu_4) (cwV 2 hts gv_h6_22 rfl rfl rfl (by decide +kernel) ⟨Nat.le_of_ble_eq_true rfl, Nat.le_of_ble_eq_true rfl⟩) ⟨fun a U g mk q => by obtain ⟨q0, q1, qP, qK, qD⟩ := q; exact ⟨q0, q1, qP, va_K.moved (u := U) (U := U.calling g mk a) (Vm.Alike.refl U.vm) qK, qD⟩, va_recv hKc hPc (ci := 13) (q0 := 0) rfl rfl, fun U hU hW => ⟨rfl, by rw [hU], by rw [hU]; exact hPc, va_K.moved hW.alike hKc, hDc.weaken (fun _ _ _ _ => trivial)⟩⟩ rfl rfl hl.1 rfl (lv_room (Nat.le_of_ble_eq_true rfl)) dX13_intOf_68 ⟨Nat.le_of_ble_eq_true rfl, Nat.le_of_ble_eq_true rfl⟩) hS (fun q _ h => hFc q h) hFc ?_
  clear hS
  intro r_6 u t H1 locs ht hvm hw hB hz1 hk1 hS
  obtain ⟨z_4, rfl⟩ : ∃ z, z = u := ⟨_, rfl⟩
  obtain ⟨hP1, hK1, hD1⟩ := hB
  rw [ht] at hP1
  have hK1 := va_K.moved hvm.symm hK1
  try dsimp only at hw
  have hPD := va_join (wr := [(qf150, .inl (cf150, 60, .inl f150)), (qf102, .inl (cf102, 2048, .inl f102))]) (w1 := [(h0, .inr (13, z_4)), (qf100, .inl (cf100, 48000, .inl f100))]) hP hD [2, 3] [0, 1] rfl rfl (by decide) (by decide) hk1 hFc hP1 hD1
  clear hP hD
  obtain ⟨hP, hD⟩ := hPD
  replace hK := (hK.sub (tys' := [(cf150, .int), (cf102, .int)]) [0, 1] rfl).app hK1
  clear hPc hDc hKc hFc hP1 hK1 hD1 hz1 hk1 ht hvm
  generalize H1 = H at hP hS ⊢
  replace hP : va_P (dC, dI) vwCl [(qf150, .inl (cf150, 60, .inl f150)), (qf102, .inl (cf102, 2048, .inl f102)), (h0, .inr (13, z_4)), (qf100, .inl (cf100, 48000, .inl f100))] H := hP
  replace hD : va_D A [(qf150, .inl (cf150, 60, .inl f150)), (qf102, .inl (cf102, 2048, .inl f102)), (h0, .inr (13, z_4)), (qf100, .inl (cf100, 48000, .inl f100))] := hD
  replace hK : va_K (dC, dI) vwCl [(cf150, .int), (cf102, .int), (cf100, .int)] s := hK
  obtain ⟨hwa_4, hln_4, hre_4⟩ := hw
  have hfk_4_100 : z_4[100]? = some (.ref qf100) := (hre_4 100 ).trans (hfk_3_100)
  have hfk_4_102 : z_4[102]? = some (.ref qf102) := (hre_4 102 ).trans (hfk_3_102)
  have hfk_4_149 : z_4[149]? = some (.int v149) := (hre_4 149 ).trans (hfk_3_149)
  have hfk_4_150 : z_4[150]? = some (.ref qf150) := (hre_4 150 ).trans (hfk_3_150)
  have hrq_4 : ∀ j : Nat, z_4[j]? = zs[j]? := fun j  => (hre_4 j ).trans (hrq_3 j )
  obtain rfl := hwa_4
  refine lv_ior hx hb dX13_intOf_71 ?_
  have hr0 := Option.some.inj hsp
  clear hsp
  subst hr0
  have hP9 := hP.sub (ws' := [(h0, .inr (13, z_4)), (qf150, .inl (cf150, 60, .inl f150)), (qf102, .inl (cf102, 2048, .inl f102)), (qf100, .inl (cf100, 48000, .inl f100))]) [2, 0, 1, 3] rfl
  have hD9 := hD.sub (ws' := [(h0, .inr (13, z_4)), (qf150, .inl (cf150, 60, .inl f150)), (qf102, .inl (cf102, 2048, .inl f102)), (qf100, .inl (cf100, 48000, .inl f100))]) [2, 0, 1, 3] (by decide) rfl
  have hK9 := hK.sub (tys' := [(cf150, .int), (cf102, .int), (cf100, .int)]) [0, 1, 2] rfl
  exact W.iret hx hb hr (fun t ht hW => ⟨⟨(((((u1_0 <<< (24 &&& 31)) ||| (u2_0 <<< (16 &&& 31))) ||| (u3_0 <<< (8 &&& 31))) ||| u4_0)), (z_4), rfl, ⟨rfl, hln_4, hrq_4⟩, by rw [ht]; exact hP9, va_K.moved hW.alike hK9, hD9⟩, hS.F ht⟩) hS.2.2 dX13_intOf_72
def sp_tn_back (nf : Nat) (a1 : Int32) (v138 : Int32) (v139 : Int32) (v149 : Int32) (f153 : Nat → Int32) (f154 : Nat → Int32) (f144 : Nat → Int32) (f152 : Nat → Int32) : Option ((Nat → Int32) × (Nat → Int32) × (Nat → Int32) × Int32 × Int32 × Int32) := (if a1 = 177 then (if (v149 - 1) ≤ 0 then (if a1 = 172 then (some (f152, f153, f154, 2, 0, (v149 - 1))) else (if a1 = 176 then (some (f152, f153, f154, 2, v139, (v149 - 1))) else (some (f152, f153, f154, 2, v139, (v149 - 1))))) else (if a1 = 177 then ((sp_tm_on nf 2 (v149 - 1) f152).bind (fun p6 => (some (p6, f153, f154, v138, v139, (v149 - 1))))) else ((sp_tm_give nf 0 (v149 - 1) f153 f154).bind (fun p7 => ((sp_tm_on nf 2 (v149 - 1) f152).bind (fun p8 => (some (p8, p7.1, p7.2, v138, v139, (v149 - 1))))))))) else ((sp_tm_drop nf v149 f153 f154).bind (fun p1 => (if (v149 - 1) ≤ 0 then (if a1 = 172 then (some (f152, p1.2, f154, 2, p1.1, (v149 - 1))) else (if a1 = 176 then (if p1.1 = 0 then (some (f152, p1.2, f154, 2, v139, (v149 - 1))) else ((sp_tm_told nf p1.1 f144).bind (fun p2 => (some (f152, p1.2, f154, 2, p2, (v149 - 1)))))) else (some (f152, p1.2, f154, 2, v139, (v149 - 1))))) else (if a1 = 177 then ((sp_tm_on nf 2 (v149 - 1) f152).bind (fun p3 => (some (p3, p1.2, f154, v138, v139, (v149 - 1))))) else ((sp_tm_give nf p1.1 (v149 - 1) p1.2 f154).bind (fun p4 => ((sp_tm_on nf 2 (v149 - 1) f152).bind (fun p5 => (some (p5, p4.1, p4.2, v138, v139, (v149 - 1))))))))))))
set_option maxHeartbeats 4000000 in
set_option maxRecDepth 100000 in
/-- ClassMillModel.back -/
theorem tn_back (l : Launch) (dC : Nat → ClassId) (dI : Nat → Nat → Nat) (sz : Nat) (h0 : Nat) (zs : (List Value)) (a1 : Int32) (v138 : Int32) (v139 : Int32) (qf144 : Nat) (v149 : Int32) (qf152 : Nat) (qf153 : Nat) (qf154 : Nat) (cf153 : ClassId) (f153 : (Nat → Int32)) (cf154 : ClassId) (f154 : (Nat → Int32)) (cf144 : ClassId) (f144 : (Nat → Int32)) (cf152 : ClassId) (f152 : (Nat → Int32)) (nf : Nat) (o152 : (Nat → Int32)) (o153 : (Nat → Int32)) (o154 : (Nat → Int32)) (w138 : Int32) (w139 : Int32) (w149 : Int32) (hlen : zs.length = 155) (hf138 : zs[138]? = some (.int v138)) (hf139 : zs[139]? = some (.int v139)) (hf144 : zs[144]? = some (.ref qf144)) (hf149 : zs[149]? = some (.int v149)) (hf152 : zs[152]? = some (.ref qf152)) (hf153 : zs[153]? = some (.ref qf153)) (hf154 : zs[154]? = some (.ref qf154)) (hsp : sp_tn_back nf a1 v138 v139 v149 f153 f154 f144 f152 = some (o152, o153, o154, w138, w139, w149)) : Met l yX13_back (.code yX13_back cX13_back 3 none :: VS_h6) ({ frames := 1, cells := 0, slots := 0, locals := 22 }) (va_Pc [.ref h0, .int a1] (fun U => U.heap.size = sz ∧ va_P (dC, dI) vwCl [(h0, .inr (13, zs)), (qf153, .inl (cf153, 60, .inl f153)), (qf154, .inl (cf154, 3600, .inl f154)), (qf144, .inl (cf144, 2001, .inl f144)), (qf152, .inl (cf152, 60, .inl f152))] U.heap ∧ va_K (dC, dI) vwCl [(cf153, .int), (cf154, .int), (cf144, .int), (cf152, .int)] U ∧ va_D (fun _ => True) [(h0, .inr (13, zs)), (qf153, .inl (cf153, 60, .inl f153)), (qf154, .inl (cf154, 3600, .inl f154)), (qf144, .inl (cf144, 2001, .inl f144)), (qf152, .inl (cf152, 60, .inl f152))])) (va_Qv (fun (u : (List Value)) => match u with | (zo1) => True ∧ zo1.length = 155 ∧ (∀ j : Nat, j ≠ 138 → j ≠ 139 → j ≠ 149 → zo1[j]? = zs[j]?) ∧ zo1[138]? = some (.int w138) ∧ zo1[139]? = some (.int w139) ∧ zo1[149]? = some (.int w149)) (fun (u : (List Value)) (t : State) => match u with | (zo1) => va_P (dC, dI) vwCl [(h0, .inr (13, zo1)), (qf153, .inl (cf153, 60, .inl o153)), (qf154, .inl (cf154, 3600, .inl o154)), (qf144, .inl (cf144, 2001, .inl f144)), (qf152, .inl (cf152, 60, .inl o152))] t.heap ∧ va_K (dC, dI) vwCl [(cf153, .int), (cf154, .int), (cf144, .int), (cf152, .int)] t ∧ va_D (va_A [(h0, .inr (13, zs)), (qf153, .inl (cf153, 60, .inl f153)), (qf154, .inl (cf154, 3600, .inl f154)), (qf144, .inl (cf144, 2001, .inl f144)), (qf152, .inl (cf152, 60, .inl f152))] sz) [(h0, .inr (13, zo1)), (qf153, .inl (cf153, 60, .inl o153)), (qf154, .inl (cf154, 3600, .inl o154)), (qf144, .inl (cf144, 2001, .inl f144)), (qf152, .inl (cf152, 60, .inl o152))]) (va_A [(h0, .inr (13, zs)), (qf153, .inl (cf153, 60, .inl f153)), (qf154, .inl (cf154, 3600, .inl f154)), (qf144, .inl (cf144, 2001, .inl f144)), (qf152, .inl (cf152, 60, .inl f152))] sz)) 0 0 (va_A [(h0, .inr (13, zs)), (qf153, .inl (cf153, 60, .inl f153)), (qf154, .inl (cf154, 3600, .inl f154)), (qf144, .inl (cf144, 2001, .inl f144)), (qf152, .inl (cf152, 60, .inl f152))] sz) := by
  refine Met.ofW (cc := cX13_back) (maxL := 3) (ret := none) (by decide) rfl ?_
  intro p e s m args below meth c s₁ B hml hv
  obtain ⟨rfl, hsz, hP, hK, hD0⟩ := hv
  have hx := B.exec
  have hb := B.bytes
  have hr := B.returns
  have hts := atoms_spec (ws := (.code yX13_back cX13_back 3 none :: VS_h6)) B.pre
  replace hts := fun w (h : w ∈ VS_h6) => hts w (List.mem_cons_of_mem _ h)
  have hown : s.vm.findClass RX13 = some m.cls := findClass_of_methodNamed B.named
  have hlocks := B.notSynchronized
  subst hsz
  have hD := hD0.self (sz := s.heap.size)
  generalize hAe : va_A [(h0, .inr (13, zs)), (qf153, .inl (cf153, 60, .inl f153)), (qf154, .inl (cf154, 3600, .inl f154)), (qf144, .inl (cf144, 2001, .inl f144)), (qf152, .inl (cf152, 60, .inl f152))] s.heap.size = A at hD  ⊢
  have hA : ∀ q : Nat, s.heap.size ≤ q → A q := fun q h => by rw [← hAe]; exact Or.inr h
  have hP : va_P (dC, dI) vwCl [(h0, .inr (13, zs)), (qf153, .inl (cf153, 60, .inl f153)), (qf154, .inl (cf154, 3600, .inl f154)), (qf144, .inl (cf144, 2001, .inl f144)), (qf152, .inl (cf152, 60, .inl f152))] s.heap := hP
  have hl := lv_entry ([.ref h0, .int a1]) (n := 3) (Nat.le_of_ble_eq_true rfl)
  rw [lg_entry_eq]
  generalize (lg_sl ([.ref h0, .int a1]) ++ List.replicate (3 - (lg_sl ([.ref h0, .int a1])).length) Slot.unset).toArray = ls at hl ⊢
  have hl : lv_has ls 3 [(0, .ref h0), (1, .int a1)] := hl
  obtain ⟨H, hH⟩ : ∃ H : Heap, s.heap = H := ⟨_, rfl⟩
  rw [hH] at hP ⊢
  have hS : va_S A s.heap H [] := by rw [← hH]; exact va_S.rf
  obtain ⟨locs, hlo⟩ : ∃ locs : List Loc, locs = [] := ⟨_, rfl⟩
  rw [← hlo] at hS ⊢
  have hrs0 : ∀ j : Nat, j ≠ 138 → j ≠ 139 → j ≠ 149 → zs[j]? = zs[j]? := fun _ _ _ _  => rfl
  unfold sp_tn_back at hsp
  refine lv_iload_n hx hb dX13_back_0 rfl (lv_at hl 1 rfl) ?_
  refine lv_sipush (v := 177) hx hb dX13_back_1 (by decide) ?_
  refine lv_icmp_ne (tgt := 11) hx hb dX13_back_4 (by decide) (fun c_1 => ?_) (fun c_1 => ?_)
  · rw [if_neg c_1] at hsp
    refine lv_aload_n hx hb dX13_back_11 rfl (lv_at hl 0 rfl) ?_
    obtain ⟨⟨u1_0, g901_1⟩, hu_1, hsp⟩ := ox_bind hsp
    try dsimp only at hsp
    have hPc := hP.sub (ws' := [(h0, .inr (13, zs)), (qf153, .inl (cf153, 60, .inl f153)), (qf154, .inl (cf154, 3600, .inl f154))]) [0, 1, 2] rfl
    have hDc := hD.sub (ws' := [(h0, .inr (13, zs)), (qf153, .inl (cf153, 60, .inl f153)), (qf154, .inl (cf154, 3600, .inl f154))]) [0, 1, 2] (by decide) rfl
    have hKc := hK.sub (tys' := [(cf153, .int), (cf154, .int)]) [0, 1] rfl
    have hFc := va_free (wc := [(h0, .inr (13, zs)), (qf153, .inl (cf153, 60, .inl f153)), (qf154, .inl (cf154, 3600, .inl f154))]) hD hS hA [0, 1, 2] rfl
    refine va_calli (va_runV (As := []) (rest := []) ⟨hx, hb, hml, hown, hts⟩ (tm_drop l dC dI H.size h0 zs v149 qf153 qf154 cf153 f153 cf154 f154 nf u1_0 g901_1 hlen hf149 hf153 hf154 hu_1) (cwV 0 hts gv_h6_27 rfl rfl rfl (by decide +kernel) ⟨Nat.le_of_ble_eq_true rfl, Nat.le_of_ble_eq_true rfl⟩) ⟨fun a U g mk q => by obtain ⟨q0, q1, qP, qK, qD⟩ := q; exact ⟨q0, q1, qP, va_K.moved (u := U) (U := U.calling g mk a) (Vm.Alike.refl U.vm) qK, qD⟩, va_recv hKc hPc (ci := 13) (q0 := 0) rfl rfl, fun U hU hW => ⟨rfl, by rw [hU], by rw [hU]; exact hPc, va_K.moved hW.alike hKc, hDc.weaken (fun _ _ _ _ => trivial)⟩⟩ rfl rfl hl.1 rfl (lv_room (Nat.le_of_ble_eq_true rfl)) dX13_back_12 ⟨Nat.le_of_ble_eq_true rfl, Nat.le_of_ble_eq_true rfl⟩) hS (fun q _ h => hFc q h) hFc ?_
    clear hS
    intro r_2 u t H1 locs ht hvm hw hB hz1 hk1 hS
    obtain ⟨z_1, rfl⟩ : ∃ z, z = u := ⟨_, rfl⟩
    obtain ⟨hP1, hK1, hD1⟩ := hB
    rw [ht] at hP1
    have hK1 := va_K.moved hvm.symm hK1
    try dsimp only at hw
    have hPD := va_join (wr := [(qf144, .inl (cf144, 2001, .inl f144)), (qf152, .inl (cf152, 60, .inl f152))]) (w1 := [(h0, .inr (13, z_1)), (qf153, .inl (cf153, 60, .inl g901_1)), (qf154, .inl (cf154, 3600, .inl f154))]) hP hD [0, 1, 2] [3, 4] rfl rfl (by decide) (by decide) hk1 hFc hP1 hD1
    clear hP hD
    obtain ⟨hP, hD⟩ := hPD
    replace hK := (hK.sub (tys' := [(cf144, .int), (cf152, .int)]) [2, 3] rfl).app hK1
    clear hPc hDc hKc hFc hP1 hK1 hD1 hz1 hk1 ht hvm
    generalize H1 = H at hP hS ⊢
    replace hP : va_P (dC, dI) vwCl [(qf144, .inl (cf144, 2001, .inl f144)), (qf152, .inl (cf152, 60, .inl f152)), (h0, .inr (13, z_1)), (qf153, .inl (cf153, 60, .inl g901_1)), (qf154, .inl (cf154, 3600, .inl f154))] H := hP
    replace hD : va_D A [(qf144, .inl (cf144, 2001, .inl f144)), (qf152, .inl (cf152, 60, .inl f152)), (h0, .inr (13, z_1)), (qf153, .inl (cf153, 60, .inl g901_1)), (qf154, .inl (cf154, 3600, .inl f154))] := hD
    replace hK : va_K (dC, dI) vwCl [(cf144, .int), (cf152, .int), (cf153, .int), (cf154, .int)] s := hK
    obtain ⟨hwa_1, hln_1, hre_1⟩ := hw
    have hfk_1_138 : z_1[138]? = some (.int v138) := (hre_1 138 ).trans (hf138)
    have hfk_1_139 : z_1[139]? = some (.int v139) := (hre_1 139 ).trans (hf139)
    have hfk_1_144 : z_1[144]? = some (.ref qf144) := (hre_1 144 ).trans (hf144)
    have hfk_1_149 : z_1[149]? = some (.int v149) := (hre_1 149 ).trans (hf149)
    have hfk_1_152 : z_1[152]? = some (.ref qf152) := (hre_1 152 ).trans (hf152)
    have hfk_1_153 : z_1[153]? = some (.ref qf153) := (hre_1 153 ).trans (hf153)
    have hfk_1_154 : z_1[154]? = some (.ref qf154) := (hre_1 154 ).trans (hf154)
    have hrq_1 : ∀ j : Nat, j ≠ 138 → j ≠ 139 → j ≠ 149 → z_1[j]? = zs[j]? := fun j g138 g139 g149 => (hre_1 j ).trans (hrs0 j g138 g139 g149)
    obtain rfl := hwa_1
    refine lv_istore_n (lv' := [(2, .int u1_0), (0, .ref h0), (1, .int a1)]) hx hb dX13_back_15 rfl hl (by decide) rfl (fun ls hl => ?_)
    refine lv_aload_n hx hb dX13_back_16 rfl (lv_at hl 1 rfl) ?_
    refine lv_dup hx hb dX13_back_17 rfl ?_
    refine va_get (D := (dC, dI)) (ci := 13) (v := .int v149) (C := RX13) (T := TX13) (N := 155) hx hb hts uV_h6_X13 hown hK hP 2 rfl rfl 149 (by decide) (hts (.fieldLink RX13 1058 "ClassMillModel" "depth" "I") mw_h6_138) (fun _ h9 => h9) hfk_1_149 dX13_back_18 ?_
    refine lv_iconst (v := 1) hx hb dX13_back_21 (by decide) ?_
    refine lv_isub hx hb dX13_back_22 ?_
    refine va_put (D := (dC, dI)) (ci := 13) (v := .int (v149 - 1)) (ty := .int) (C := RX13) (T := TX13) (N := 155) hx hb hts uV_h6_X13 tyX13 tyX13_ok nmX13 hown hK hP hD hS 2 rfl rfl 149 (by decide) (hts (.fieldLink RX13 1058 "ClassMillModel" "depth" "I") mw_h6_138) (fun _ h9 => h9) rfl (by decide +kernel) rfl rfl (by rw [hln_1]; decide) dX13_back_23 ?_
    clear hP hD hS
    intro H locs hP hD hS
    obtain ⟨fs_3, efs_3⟩ : ∃ zf : List Value, zf = z_1.set 149 (.int (v149 - 1)) := ⟨_, rfl⟩
    rw [← efs_3] at hP hD
    have hlfs_3 : fs_3.length = 155 := by rw [efs_3, List.length_set]; exact hln_1
    have hfs_3_138 : fs_3[138]? = some (.int v138) := by rw [efs_3, List.getElem?_set_ne (by decide)]; exact hfk_1_138
    have hfs_3_139 : fs_3[139]? = some (.int v139) := by rw [efs_3, List.getElem?_set_ne (by decide)]; exact hfk_1_139
    have hfs_3_144 : fs_3[144]? = some (.ref qf144) := by rw [efs_3, List.getElem?_set_ne (by decide)]; exact hfk_1_144
    have hfs_3_152 : fs_3[152]? = some (.ref qf152) := by rw [efs_3, List.getElem?_set_ne (by decide)]; exact hfk_1_152
    have hfs_3_153 : fs_3[153]? = some (.ref qf153) := by rw [efs_3, List.getElem?_set_ne (by decide)]; exact hfk_1_153
    have hfs_3_154 : fs_3[154]? = some (.ref qf154) := by rw [efs_3, List.getElem?_set_ne (by decide)]; exact hfk_1_154
    have hfs_3_149 : fs_3[149]? = some (.int (v149 - 1)) := by rw [efs_3, List.getElem?_set_self (by rw [hln_1]; decide)]
    replace hP : va_P (dC, dI) vwCl [(qf144, .inl (cf144, 2001, .inl f144)), (qf152, .inl (cf152, 60, .inl f152)), (h0, .inr (13, fs_3)), (qf153, .inl (cf153, 60, .inl g901_1)), (qf154, .inl (cf154, 3600, .inl f154))] H := hP
    replace hD : va_D A [(qf144, .inl (cf144, 2001, .inl f144)), (qf152, .inl (cf152, 60, .inl f152)), (h0, .inr (13, fs_3)), (qf153, .inl (cf153, 60, .inl g901_1)), (qf154, .inl (cf154, 3600, .inl f154))] := hD
    have hrs_4 : ∀ j : Nat, j ≠ 138 → j ≠ 139 → j ≠ 149 → fs_3[j]? = zs[j]? := fun j g138 g139 g149 => ((congrArg (fun z : List Value => z[j]?) efs_3).trans (List.getElem?_set_ne (Ne.symm g149))).trans (hrq_1 j g138 g139 g149)
    refine lv_aload_n hx hb dX13_back_26 rfl (lv_at hl 1 rfl) ?_
    refine va_get (D := (dC, dI)) (ci := 13) (v := .int (v149 - 1)) (C := RX13) (T := TX13) (N := 155) hx hb hts uV_h6_X13 hown hK hP 2 rfl rfl 149 (by decide) (hts (.fieldLink RX13 1058 "ClassMillModel" "depth" "I") mw_h6_138) (fun _ h9 => h9) hfs_3_149 dX13_back_27 ?_
    refine lv_if_le (tgt := 51) hx hb dX13_back_30 (by decide) (fun c_5 => ?_) (fun c_5 => ?_)
    · rw [if_pos c_5] at hsp
      refine lv_aload_n hx hb dX13_back_51 rfl (lv_at hl 1 rfl) ?_
      refine lv_iconst (v := 2) hx hb dX13_back_52 (by decide) ?_
      refine va_put (D := (dC, dI)) (ci := 13) (v := .int 2) (ty := .int) (C := RX13) (T := TX13) (N := 155) hx hb hts uV_h6_X13 tyX13 tyX13_ok nmX13 hown hK hP hD hS 2 rfl rfl 138 (by decide) (hts (.fieldLink RX13 858 "ClassMillModel" "state" "I") mw_h6_160) (fun _ h9 => h9) rfl (by decide +kernel) rfl rfl (by rw [hlfs_3]; decide) dX13_back_53 ?_
      clear hP hD hS
      intro H locs hP hD hS
      obtain ⟨fs_6, efs_6⟩ : ∃ zf : List Value, zf = fs_3.set 138 (.int 2) := ⟨_, rfl⟩
      rw [← efs_6] at hP hD
      have hlfs_6 : fs_6.length = 155 := by rw [efs_6, List.length_set]; exact hlfs_3
      have hfs_6_139 : fs_6[139]? = some (.int v139) := by rw [efs_6, List.getElem?_set_ne (by decide)]; exact hfs_3_139
      have hfs_6_144 : fs_6[144]? = some (.ref qf144) := by rw [efs_6, List.getElem?_set_ne (by decide)]; exact hfs_3_144
      have hfs_6_152 : fs_6[152]? = some (.ref qf152) := by rw [efs_6, List.getElem?_set_ne (by decide)]; exact hfs_3_152
      have hfs_6_153 : fs_6[153]? = some (.ref qf153) := by rw [efs_6, List.getElem?_set_ne (by decide)]; exact hfs_3_153
      have hfs_6_154 : fs_6[154]? = some (.ref qf154) := by rw [efs_6, List.getElem?_set_ne (by decide)]; exact hfs_3_154
      have hfs_6_149 : fs_6[149]? = some (.int (v149 - 1)) := by rw [efs_6, List.getElem?_set_ne (by decide)]; exact hfs_3_149
      have hfs_6_138 : fs_6[138]? = some (.int 2) := by rw [efs_6, List.getElem?_set_self (by rw [hlfs_3]; decide)]
      replace hP : va_P (dC, dI) vwCl [(qf144, .inl (cf144, 2001, .inl f144)), (qf152, .inl (cf152, 60, .inl f152)), (h0, .inr (13, fs_6)), (qf153, .inl (cf153, 60, .inl g901_1)), (qf154, .inl (cf154, 3600, .inl f154))] H := hP
      replace hD : va_D A [(qf144, .inl (cf144, 2001, .inl f144)), (qf152, .inl (cf152, 60, .inl f152)), (h0, .inr (13, fs_6)), (qf153, .inl (cf153, 60, .inl g901_1)), (qf154, .inl (cf154, 3600, .inl f154))] := hD
      have hrs_7 : ∀ j : Nat, j ≠ 138 → j ≠ 139 → j ≠ 149 → fs_6[j]? = zs[j]? := fun j g138 g139 g149 => ((congrArg (fun z : List Value => z[j]?) efs_6).trans (List.getElem?_set_ne (Ne.symm g138))).trans (hrs_4 j g138 g139 g149)
      refine lv_iload_n hx hb dX13_back_56 rfl (lv_at hl 2 rfl) ?_
      refine lv_sipush (v := 172) hx hb dX13_back_57 (by decide) ?_
      refine lv_icmp_ne (tgt := 71) hx hb dX13_back_60 (by decide) (fun c_8 => ?_) (fun c_8 => ?_)
      · rw [if_neg c_8] at hsp
        refine lv_iload_n hx hb dX13_back_71 rfl (lv_at hl 2 rfl) ?_
        refine lv_sipush (v := 176) hx hb dX13_back_72 (by decide) ?_
        refine lv_icmp_ne (tgt := 91) hx hb dX13_back_75 (by decide) (fun c_9 => ?_) (fun c_9 => ?_)
        · rw [if_neg c_9] at hsp
          have hr0 := Option.some.inj hsp
          clear hsp
          obtain ⟨hq0, hr1⟩ := Prod.mk.inj hr0
          clear hr0
          obtain ⟨hq1, hr2⟩ := Prod.mk.inj hr1
          clear hr1
          obtain ⟨hq2, hr3⟩ := Prod.mk.inj hr2
          clear hr2
          obtain ⟨hq3, hr4⟩ := Prod.mk.inj hr3
          clear hr3
          obtain ⟨hq4, hr5⟩ := Prod.mk.inj hr4
          clear hr4
          subst hq0
          subst hq1
          subst hq2
          subst hq3
          subst hq4
          subst hr5
          have hP9 := hP.sub (ws' := [(h0, .inr (13, fs_6)), (qf153, .inl (cf153, 60, .inl g901_1)), (qf154, .inl (cf154, 3600, .inl f154)), (qf144, .inl (cf144, 2001, .inl f144)), (qf152, .inl (cf152, 60, .inl f152))]) [2, 3, 4, 0, 1] rfl
          have hD9 := hD.sub (ws' := [(h0, .inr (13, fs_6)), (qf153, .inl (cf153, 60, .inl g901_1)), (qf154, .inl (cf154, 3600, .inl f154)), (qf144, .inl (cf144, 2001, .inl f144)), (qf152, .inl (cf152, 60, .inl f152))]) [2, 3, 4, 0, 1] (by decide) rfl
          have hK9 := hK.sub (tys' := [(cf153, .int), (cf154, .int), (cf144, .int), (cf152, .int)]) [2, 3, 0, 1] rfl
          exact W.vret hx hb hr (fun t ht hW => ⟨⟨(fs_6), rfl, ⟨trivial, hlfs_6, hrs_7, hfs_6_138, hfs_6_139, hfs_6_149⟩, by rw [ht]; exact hP9, va_K.moved hW.alike hK9, hD9⟩, hS.F ht⟩) hS.2.2 dX13_back_91
        · rw [if_pos c_9] at hsp
          refine lv_iload_n hx hb dX13_back_78 rfl (lv_at hl 0 rfl) ?_
          refine lv_if_eq (tgt := 91) hx hb dX13_back_79 (by decide) (fun c_10 => ?_) (fun c_10 => ?_)
          · rw [if_pos c_10] at hsp
            have hr0 := Option.some.inj hsp
            clear hsp
            obtain ⟨hq0, hr1⟩ := Prod.mk.inj hr0
            clear hr0
            obtain ⟨hq1, hr2⟩ := Prod.mk.inj hr1
            clear hr1
            obtain ⟨hq2, hr3⟩ := Prod.mk.inj hr2
            clear hr2
            obtain ⟨hq3, hr4⟩ := Prod.mk.inj hr3
            clear hr3
            obtain ⟨hq4, hr5⟩ := Prod.mk.inj hr4
            clear hr4
            subst hq0
            subst hq1
            subst hq2
            subst hq3
            subst hq4
            subst hr5
            have hP9 := hP.sub (ws' := [(h0, .inr (13, fs_6)), (qf153, .inl (cf153, 60, .inl g901_1)), (qf154, .inl (cf154, 3600, .inl f154)), (qf144, .inl (cf144, 2001, .inl f144)), (qf152, .inl (cf152, 60, .inl f152))]) [2, 3, 4, 0, 1] rfl
            have hD9 := hD.sub (ws' := [(h0, .inr (13, fs_6)), (qf153, .inl (cf153, 60, .inl g901_1)), (qf154, .inl (cf154, 3600, .inl f154)), (qf144, .inl (cf144, 2001, .inl f144)), (qf152, .inl (cf152, 60, .inl f152))]) [2, 3, 4, 0, 1] (by decide) rfl
            have hK9 := hK.sub (tys' := [(cf153, .int), (cf154, .int), (cf144, .int), (cf152, .int)]) [2, 3, 0, 1] rfl
            exact W.vret hx hb hr (fun t ht hW => ⟨⟨(fs_6), rfl, ⟨trivial, hlfs_6, hrs_7, hfs_6_138, hfs_6_139, hfs_6_149⟩, by rw [ht]; exact hP9, va_K.moved hW.alike hK9, hD9⟩, hS.F ht⟩) hS.2.2 dX13_back_91
          · rw [if_neg c_10] at hsp
            refine lv_aload_n hx hb dX13_back_82 rfl (lv_at hl 1 rfl) ?_
            refine lv_aload_n hx hb dX13_back_83 rfl (lv_at hl 1 rfl) ?_
            refine lv_iload_n hx hb dX13_back_84 rfl (lv_at hl 0 rfl) ?_
            obtain ⟨u2_0, hu_2, hsp⟩ := ox_bind hsp
            try dsimp only at hsp
            have hPc := hP.sub (ws' := [(h0, .inr (13, fs_6)), (qf144, .inl (cf144, 2001, .inl f144))]) [2, 0] rfl
            have hDc := hD.sub (ws' := [(h0, .inr (13, fs_6)), (qf144, .inl (cf144, 2001, .inl f144))]) [2, 0] (by decide) rfl
            have hKc := hK.sub (tys' := [(cf144, .int)]) [0] rfl
            have hFc := va_free (wc := [(h0, .inr (13, fs_6)), (qf144, .inl (cf144, 2001, .inl f144))]) hD hS hA [2, 0] rfl
            refine va_calli (va_runV (As := [.int u1_0]) (rest := [.ref h0]) ⟨hx, hb, hml, hown, hts⟩ (tm_told l dC dI H.size h0 fs_6 u1_0 qf144 cf144 f144 nf u2_0 hlfs_6 hfs_6_144 hu_2) (cwV 1 hts gv_h6_28 rfl rfl rfl (by decide +kernel) ⟨Nat.le_of_ble_eq_true rfl, Nat.le_of_ble_eq_true rfl⟩) ⟨fun a U g mk q => by obtain ⟨q0, q1, qP, qK, qD⟩ := q; exact ⟨q0, q1, qP, va_K.moved (u := U) (U := U.calling g mk a) (Vm.Alike.refl U.vm) qK, qD⟩, va_recv hKc hPc (ci := 13) (q0 := 0) rfl rfl, fun U hU hW => ⟨rfl, by rw [hU], by rw [hU]; exact hPc, va_K.moved hW.alike hKc, hDc.weaken (fun _ _ _ _ => trivial)⟩⟩ rfl rfl hl.1 rfl (lv_room (Nat.le_of_ble_eq_true rfl)) dX13_back_85 ⟨Nat.le_of_ble_eq_true rfl, Nat.le_of_ble_eq_true rfl⟩) hS (fun q _ h => hFc q h) hFc ?_
            clear hS
            intro r_11 u t H1 locs ht hvm hw hB hz1 hk1 hS
            obtain ⟨z_2, rfl⟩ : ∃ z, z = u := ⟨_, rfl⟩
            obtain ⟨hP1, hK1, hD1⟩ := hB
            rw [ht] at hP1
            have hK1 := va_K.moved hvm.symm hK1
            try dsimp only at hw
            have hPD := va_join (wr := [(qf152, .inl (cf152, 60, .inl f152)), (qf153, .inl (cf153, 60, .inl g901_1)), (qf154, .inl (cf154, 3600, .inl f154))]) (w1 := [(h0, .inr (13, z_2)), (qf144, .inl (cf144, 2001, .inl f144))]) hP hD [2, 0] [1, 3, 4] rfl rfl (by decide) (by decide) hk1 hFc hP1 hD1
            clear hP hD
            obtain ⟨hP, hD⟩ := hPD
            replace hK := (hK.sub (tys' := [(cf152, .int), (cf153, .int), (cf154, .int)]) [1, 2, 3] rfl).app hK1
            clear hPc hDc hKc hFc hP1 hK1 hD1 hz1 hk1 ht hvm
            generalize H1 = H at hP hS ⊢
            replace hP : va_P (dC, dI) vwCl [(qf152, .inl (cf152, 60, .inl f152)), (qf153, .inl (cf153, 60, .inl g901_1)), (qf154, .inl (cf154, 3600, .inl f154)), (h0, .inr (13, z_2)), (qf144, .inl (cf144, 2001, .inl f144))] H := hP
            replace hD : va_D A [(qf152, .inl (cf152, 60, .inl f152)), (qf153, .inl (cf153, 60, .inl g901_1)), (qf154, .inl (cf154, 3600, .inl f154)), (h0, .inr (13, z_2)), (qf144, .inl (cf144, 2001, .inl f144))] := hD
            replace hK : va_K (dC, dI) vwCl [(cf152, .int), (cf153, .int), (cf154, .int), (cf144, .int)] s := hK
            obtain ⟨hwa_2, hln_2, hre_2⟩ := hw
            have hfk_2_138 : z_2[138]? = some (.int 2) := (hre_2 138 ).trans (hfs_6_138)
            have hfk_2_139 : z_2[139]? = some (.int v139) := (hre_2 139 ).trans (hfs_6_139)
            have hfk_2_144 : z_2[144]? = some (.ref qf144) := (hre_2 144 ).trans (hfs_6_144)
            have hfk_2_149 : z_2[149]? = some (.int (v149 - 1)) := (hre_2 149 ).trans (hfs_6_149)
            have hfk_2_152 : z_2[152]? = some (.ref qf152) := (hre_2 152 ).trans (hfs_6_152)
            have hfk_2_153 : z_2[153]? = some (.ref qf153) := (hre_2 153 ).trans (hfs_6_153)
            have hfk_2_154 : z_2[154]? = some (.ref qf154) := (hre_2 154 ).trans (hfs_6_154)
            have hrq_2 : ∀ j : Nat, j ≠ 138 → j ≠ 139 → j ≠ 149 → z_2[j]? = zs[j]? := fun j g138 g139 g149 => (hre_2 j ).trans (hrs_7 j g138 g139 g149)
            obtain rfl := hwa_2
            refine va_put (D := (dC, dI)) (ci := 13) (v := .int u2_0) (ty := .int) (C := RX13) (T := TX13) (N := 155) hx hb hts uV_h6_X13 tyX13 tyX13_ok nmX13 hown hK hP hD hS 3 rfl rfl 139 (by decide) (hts (.fieldLink RX13 1043 "ClassMillModel" "gave" "I") mw_h6_161) (fun _ h9 => h9) rfl (by decide +kernel) rfl rfl (by rw [hln_2]; decide) dX13_back_88 ?_
            clear hP hD hS
            intro H locs hP hD hS
            obtain ⟨fs_12, efs_12⟩ : ∃ zf : List Value, zf = z_2.set 139 (.int u2_0) := ⟨_, rfl⟩
            rw [← efs_12] at hP hD
            have hlfs_12 : fs_12.length = 155 := by rw [efs_12, List.length_set]; exact hln_2
            have hfs_12_138 : fs_12[138]? = some (.int 2) := by rw [efs_12, List.getElem?_set_ne (by decide)]; exact hfk_2_138
            have hfs_12_144 : fs_12[144]? = some (.ref qf144) := by rw [efs_12, List.getElem?_set_ne (by decide)]; exact hfk_2_144
            have hfs_12_149 : fs_12[149]? = some (.int (v149 - 1)) := by rw [efs_12, List.getElem?_set_ne (by decide)]; exact hfk_2_149
            have hfs_12_152 : fs_12[152]? = some (.ref qf152) := by rw [efs_12, List.getElem?_set_ne (by decide)]; exact hfk_2_152
            have hfs_12_153 : fs_12[153]? = some (.ref qf153) := by rw [efs_12, List.getElem?_set_ne (by decide)]; exact hfk_2_153
            have hfs_12_154 : fs_12[154]? = some (.ref qf154) := by rw [efs_12, List.getElem?_set_ne (by decide)]; exact hfk_2_154
            have hfs_12_139 : fs_12[139]? = some (.int u2_0) := by rw [efs_12, List.getElem?_set_self (by rw [hln_2]; decide)]
            replace hP : va_P (dC, dI) vwCl [(qf152, .inl (cf152, 60, .inl f152)), (qf153, .inl (cf153, 60, .inl g901_1)), (qf154, .inl (cf154, 3600, .inl f154)), (h0, .inr (13, fs_12)), (qf144, .inl (cf144, 2001, .inl f144))] H := hP
            replace hD : va_D A [(qf152, .inl (cf152, 60, .inl f152)), (qf153, .inl (cf153, 60, .inl g901_1)), (qf154, .inl (cf154, 3600, .inl f154)), (h0, .inr (13, fs_12)), (qf144, .inl (cf144, 2001, .inl f144))] := hD
            have hrs_13 : ∀ j : Nat, j ≠ 138 → j ≠ 139 → j ≠ 149 → fs_12[j]? = zs[j]? := fun j g138 g139 g149 => ((congrArg (fun z : List Value => z[j]?) efs_12).trans (List.getElem?_set_ne (Ne.symm g139))).trans (hrq_2 j g138 g139 g149)
            have hr0 := Option.some.inj hsp
            clear hsp
            obtain ⟨hq0, hr1⟩ := Prod.mk.inj hr0
            clear hr0
            obtain ⟨hq1, hr2⟩ := Prod.mk.inj hr1
            clear hr1
            obtain ⟨hq2, hr3⟩ := Prod.mk.inj hr2
            clear hr2
            obtain ⟨hq3, hr4⟩ := Prod.mk.inj hr3
            clear hr3
            obtain ⟨hq4, hr5⟩ := Prod.mk.inj hr4
            clear hr4
            subst hq0
            subst hq1
            subst hq2
            subst hq3
            subst hq4
            subst hr5
            have hP9 := hP.sub (ws' := [(h0, .inr (13, fs_12)), (qf153, .inl (cf153, 60, .inl g901_1)), (qf154, .inl (cf154, 3600, .inl f154)), (qf144, .inl (cf144, 2001, .inl f144)), (qf152, .inl (cf152, 60, .inl f152))]) [3, 1, 2, 4, 0] rfl
            have hD9 := hD.sub (ws' := [(h0, .inr (13, fs_12)), (qf153, .inl (cf153, 60, .inl g901_1)), (qf154, .inl (cf154, 3600, .inl f154)), (qf144, .inl (cf144, 2001, .inl f144)), (qf152, .inl (cf152, 60, .inl f152))]) [3, 1, 2, 4, 0] (by decide) rfl
            have hK9 := hK.sub (tys' := [(cf153, .int), (cf154, .int), (cf144, .int), (cf152, .int)]) [1, 2, 3, 0] rfl
            exact W.vret hx hb hr (fun t ht hW => ⟨⟨(fs_12), rfl, ⟨trivial, hlfs_12, hrs_13, hfs_12_138, hfs_12_139, hfs_12_149⟩, by rw [ht]; exact hP9, va_K.moved hW.alike hK9, hD9⟩, hS.F ht⟩) hS.2.2 dX13_back_91
      · rw [if_pos c_8] at hsp
        refine lv_aload_n hx hb dX13_back_63 rfl (lv_at hl 1 rfl) ?_
        refine lv_iload_n hx hb dX13_back_64 rfl (lv_at hl 0 rfl) ?_
        refine va_put (D := (dC, dI)) (ci := 13) (v := .int u1_0) (ty := .int) (C := RX13) (T := TX13) (N := 155) hx hb hts uV_h6_X13 tyX13 tyX13_ok nmX13 hown hK hP hD hS 2 rfl rfl 139 (by decide) (hts (.fieldLink RX13 1043 "ClassMillModel" "gave" "I") mw_h6_161) (fun _ h9 => h9) rfl (by decide +kernel) rfl rfl (by rw [hlfs_6]; decide) dX13_back_65 ?_
        clear hP hD hS
        intro H locs hP hD hS
        obtain ⟨fs_14, efs_14⟩ : ∃ zf : List Value, zf = fs_6.set 139 (.int u1_0) := ⟨_, rfl⟩
        rw [← efs_14] at hP hD
        have hlfs_14 : fs_14.length = 155 := by rw [efs_14, List.length_set]; exact hlfs_6
        have hfs_14_144 : fs_14[144]? = some (.ref qf144) := by rw [efs_14, List.getElem?_set_ne (by decide)]; exact hfs_6_144
        have hfs_14_152 : fs_14[152]? = some (.ref qf152) := by rw [efs_14, List.getElem?_set_ne (by decide)]; exact hfs_6_152
        have hfs_14_153 : fs_14[153]? = some (.ref qf153) := by rw [efs_14, List.getElem?_set_ne (by decide)]; exact hfs_6_153
        have hfs_14_154 : fs_14[154]? = some (.ref qf154) := by rw [efs_14, List.getElem?_set_ne (by decide)]; exact hfs_6_154
        have hfs_14_149 : fs_14[149]? = some (.int (v149 - 1)) := by rw [efs_14, List.getElem?_set_ne (by decide)]; exact hfs_6_149
        have hfs_14_138 : fs_14[138]? = some (.int 2) := by rw [efs_14, List.getElem?_set_ne (by decide)]; exact hfs_6_138
        have hfs_14_139 : fs_14[139]? = some (.int u1_0) := by rw [efs_14, List.getElem?_set_self (by rw [hlfs_6]; decide)]
        replace hP : va_P (dC, dI) vwCl [(qf144, .inl (cf144, 2001, .inl f144)), (qf152, .inl (cf152, 60, .inl f152)), (h0, .inr (13, fs_14)), (qf153, .inl (cf153, 60, .inl g901_1)), (qf154, .inl (cf154, 3600, .inl f154))] H := hP
        replace hD : va_D A [(qf144, .inl (cf144, 2001, .inl f144)), (qf152, .inl (cf152, 60, .inl f152)), (h0, .inr (13, fs_14)), (qf153, .inl (cf153, 60, .inl g901_1)), (qf154, .inl (cf154, 3600, .inl f154))] := hD
        have hrs_15 : ∀ j : Nat, j ≠ 138 → j ≠ 139 → j ≠ 149 → fs_14[j]? = zs[j]? := fun j g138 g139 g149 => ((congrArg (fun z : List Value => z[j]?) efs_14).trans (List.getElem?_set_ne (Ne.symm g139))).trans (hrs_7 j g138 g139 g149)
        refine lv_goto (tgt := 91) hx hb dX13_back_68 (by decide) ?_
        have hr0 := Option.some.inj hsp
        clear hsp
        obtain ⟨hq0, hr1⟩ := Prod.mk.inj hr0
        clear hr0
        obtain ⟨hq1, hr2⟩ := Prod.mk.inj hr1
        clear hr1
        obtain ⟨hq2, hr3⟩ := Prod.mk.inj hr2
        clear hr2
        obtain ⟨hq3, hr4⟩ := Prod.mk.inj hr3
        clear hr3
        obtain ⟨hq4, hr5⟩ := Prod.mk.inj hr4
        clear hr4
        subst hq0
        subst hq1
        subst hq2
        subst hq3
        subst hq4
        subst hr5
        have hP9 := hP.sub (ws' := [(h0, .inr (13, fs_14)), (qf153, .inl (cf153, 60, .inl g901_1)), (qf154, .inl (cf154, 3600, .inl f154)), (qf144, .inl (cf144, 2001, .inl f144)), (qf152, .inl (cf152, 60, .inl f152))]) [2, 3, 4, 0, 1] rfl
        have hD9 := hD.sub (ws' := [(h0, .inr (13, fs_14)), (qf153, .inl (cf153, 60, .inl g901_1)), (qf154, .inl (cf154, 3600, .inl f154)), (qf144, .inl (cf144, 2001, .inl f144)), (qf152, .inl (cf152, 60, .inl f152))]) [2, 3, 4, 0, 1] (by decide) rfl
        have hK9 := hK.sub (tys' := [(cf153, .int), (cf154, .int), (cf144, .int), (cf152, .int)]) [2, 3, 0, 1] rfl
        exact W.vret hx hb hr (fun t ht hW => ⟨⟨(fs_14), rfl, ⟨trivial, hlfs_14, hrs_15, hfs_14_138, hfs_14_139, hfs_14_149⟩, by rw [ht]; exact hP9, va_K.moved hW.alike hK9, hD9⟩, hS.F ht⟩) hS.2.2 dX13_back_91
    · rw [if_neg c_5] at hsp
      refine lv_iload_n hx hb dX13_back_33 rfl (lv_at hl 2 rfl) ?_
      refine lv_sipush (v := 177) hx hb dX13_back_34 (by decide) ?_
      refine lv_icmp_eq (tgt := 45) hx hb dX13_back_37 (by decide) (fun c_16 => ?_) (fun c_16 => ?_)
      · rw [if_pos c_16] at hsp
        refine lv_aload_n hx hb dX13_back_45 rfl (lv_at hl 1 rfl) ?_
        refine lv_iconst (v := 2) hx hb dX13_back_46 (by decide) ?_
        obtain ⟨g903_0, hu_3, hsp⟩ := ox_bind hsp
        try dsimp only at hsp
        have hPc := hP.sub (ws' := [(h0, .inr (13, fs_3)), (qf152, .inl (cf152, 60, .inl f152))]) [2, 1] rfl
        have hDc := hD.sub (ws' := [(h0, .inr (13, fs_3)), (qf152, .inl (cf152, 60, .inl f152))]) [2, 1] (by decide) rfl
        have hKc := hK.sub (tys' := [(cf152, .int)]) [1] rfl
        have hFc := va_free (wc := [(h0, .inr (13, fs_3)), (qf152, .inl (cf152, 60, .inl f152))]) hD hS hA [2, 1] rfl
        refine va_callv (va_runV (As := [.int 2]) (rest := []) ⟨hx, hb, hml, hown, hts⟩ (tm_on l dC dI H.size h0 fs_3 2 ((v149 - 1)) qf152 cf152 f152 nf g903_0 hlfs_3 hfs_3_149 hfs_3_152 hu_3) (cwV 1 hts gv_h6_29 rfl rfl rfl (by decide +kernel) ⟨Nat.le_of_ble_eq_true rfl, Nat.le_of_ble_eq_true rfl⟩) ⟨fun a U g mk q => by obtain ⟨q0, q1, qP, qK, qD⟩ := q; exact ⟨q0, q1, qP, va_K.moved (u := U) (U := U.calling g mk a) (Vm.Alike.refl U.vm) qK, qD⟩, va_recv hKc hPc (ci := 13) (q0 := 0) rfl rfl, fun U hU hW => ⟨rfl, by rw [hU], by rw [hU]; exact hPc, va_K.moved hW.alike hKc, hDc.weaken (fun _ _ _ _ => trivial)⟩⟩ rfl rfl hl.1 rfl (lv_room (Nat.le_of_ble_eq_true rfl)) dX13_back_47 ⟨Nat.le_of_ble_eq_true rfl, Nat.le_of_ble_eq_true rfl⟩) hS (fun q _ h => hFc q h) hFc ?_
        clear hS
        intro u t H1 locs ht hvm hw hB hz1 hk1 hS
        obtain ⟨z_3, rfl⟩ : ∃ z, z = u := ⟨_, rfl⟩
        obtain ⟨hP1, hK1, hD1⟩ := hB
        rw [ht] at hP1
        have hK1 := va_K.moved hvm.symm hK1
        try dsimp only at hw
        have hPD := va_join (wr := [(qf144, .inl (cf144, 2001, .inl f144)), (qf153, .inl (cf153, 60, .inl g901_1)), (qf154, .inl (cf154, 3600, .inl f154))]) (w1 := [(h0, .inr (13, z_3)), (qf152, .inl (cf152, 60, .inl g903_0))]) hP hD [2, 1] [0, 3, 4] rfl rfl (by decide) (by decide) hk1 hFc hP1 hD1
        clear hP hD
        obtain ⟨hP, hD⟩ := hPD
        replace hK := (hK.sub (tys' := [(cf144, .int), (cf153, .int), (cf154, .int)]) [0, 2, 3] rfl).app hK1
        clear hPc hDc hKc hFc hP1 hK1 hD1 hz1 hk1 ht hvm
        generalize H1 = H at hP hS ⊢
        replace hP : va_P (dC, dI) vwCl [(qf144, .inl (cf144, 2001, .inl f144)), (qf153, .inl (cf153, 60, .inl g901_1)), (qf154, .inl (cf154, 3600, .inl f154)), (h0, .inr (13, z_3)), (qf152, .inl (cf152, 60, .inl g903_0))] H := hP
        replace hD : va_D A [(qf144, .inl (cf144, 2001, .inl f144)), (qf153, .inl (cf153, 60, .inl g901_1)), (qf154, .inl (cf154, 3600, .inl f154)), (h0, .inr (13, z_3)), (qf152, .inl (cf152, 60, .inl g903_0))] := hD
        replace hK : va_K (dC, dI) vwCl [(cf144, .int), (cf153, .int), (cf154, .int), (cf152, .int)] s := hK
        obtain ⟨hwa_3, hln_3, hre_3⟩ := hw
        have hfk_3_138 : z_3[138]? = some (.int v138) := (hre_3 138 ).trans (hfs_3_138)
        have hfk_3_139 : z_3[139]? = some (.int v139) := (hre_3 139 ).trans (hfs_3_139)
        have hfk_3_144 : z_3[144]? = some (.ref qf144) := (hre_3 144 ).trans (hfs_3_144)
        have hfk_3_149 : z_3[149]? = some (.int (v149 - 1)) := (hre_3 149 ).trans (hfs_3_149)
        have hfk_3_152 : z_3[152]? = some (.ref qf152) := (hre_3 152 ).trans (hfs_3_152)
        have hfk_3_153 : z_3[153]? = some (.ref qf153) := (hre_3 153 ).trans (hfs_3_153)
        have hfk_3_154 : z_3[154]? = some (.ref qf154) := (hre_3 154 ).trans (hfs_3_154)
        have hrq_3 : ∀ j : Nat, j ≠ 138 → j ≠ 139 → j ≠ 149 → z_3[j]? = zs[j]? := fun j g138 g139 g149 => (hre_3 j ).trans (hrs_4 j g138 g139 g149)
        have hr0 := Option.some.inj hsp
        clear hsp
        obtain ⟨hq0, hr1⟩ := Prod.mk.inj hr0
        clear hr0
        obtain ⟨hq1, hr2⟩ := Prod.mk.inj hr1
        clear hr1
        obtain ⟨hq2, hr3⟩ := Prod.mk.inj hr2
        clear hr2
        obtain ⟨hq3, hr4⟩ := Prod.mk.inj hr3
        clear hr3
        obtain ⟨hq4, hr5⟩ := Prod.mk.inj hr4
        clear hr4
        subst hq0
        subst hq1
        subst hq2
        subst hq3
        subst hq4
        subst hr5
        have hP9 := hP.sub (ws' := [(h0, .inr (13, z_3)), (qf153, .inl (cf153, 60, .inl g901_1)), (qf154, .inl (cf154, 3600, .inl f154)), (qf144, .inl (cf144, 2001, .inl f144)), (qf152, .inl (cf152, 60, .inl g903_0))]) [3, 1, 2, 0, 4] rfl
        have hD9 := hD.sub (ws' := [(h0, .inr (13, z_3)), (qf153, .inl (cf153, 60, .inl g901_1)), (qf154, .inl (cf154, 3600, .inl f154)), (qf144, .inl (cf144, 2001, .inl f144)), (qf152, .inl (cf152, 60, .inl g903_0))]) [3, 1, 2, 0, 4] (by decide) rfl
        have hK9 := hK.sub (tys' := [(cf153, .int), (cf154, .int), (cf144, .int), (cf152, .int)]) [1, 2, 0, 3] rfl
        exact W.vret hx hb hr (fun t ht hW => ⟨⟨(z_3), rfl, ⟨trivial, hln_3, hrq_3, hfk_3_138, hfk_3_139, hfk_3_149⟩, by rw [ht]; exact hP9, va_K.moved hW.alike hK9, hD9⟩, hS.F ht⟩) hS.2.2 dX13_back_50
      · rw [if_neg c_16] at hsp
        refine lv_aload_n hx hb dX13_back_40 rfl (lv_at hl 1 rfl) ?_
        refine lv_iload_n hx hb dX13_back_41 rfl (lv_at hl 0 rfl) ?_
        obtain ⟨⟨g904_0, g904_1⟩, hu_4, hsp⟩ := ox_bind hsp
        try dsimp only at hsp
        have hPc := hP.sub (ws' := [(h0, .inr (13, fs_3)), (qf153, .inl (cf153, 60, .inl g901_1)), (qf154, .inl (cf154, 3600, .inl f154))]) [2, 3, 4] rfl
        have hDc := hD.sub (ws' := [(h0, .inr (13, fs_3)), (qf153, .inl (cf153, 60, .inl g901_1)), (qf154, .inl (cf154, 3600, .inl f154))]) [2, 3, 4] (by decide) rfl
        have hKc := hK.sub (tys' := [(cf153, .int), (cf154, .int)]) [2, 3] rfl
        have hFc := va_free (wc := [(h0, .inr (13, fs_3)), (qf153, .inl (cf153, 60, .inl g901_1)), (qf154, .inl (cf154, 3600, .inl f154))]) hD hS hA [2, 3, 4] rfl
        refine va_callv (va_runV (As := [.int u1_0]) (rest := []) ⟨hx, hb, hml, hown, hts⟩ (tm_give l dC dI H.size h0 fs_3 u1_0 ((v149 - 1)) qf153 qf154 cf153 g901_1 cf154 f154 nf g904_0 g904_1 hlfs_3 hfs_3_149 hfs_3_153 hfs_3_154 hu_4) (cwV 1 hts gv_h6_30 rfl rfl rfl (by decide +kernel) ⟨Nat.le_of_ble_eq_true rfl, Nat.le_of_ble_eq_true rfl⟩) ⟨fun a U g mk q => by obtain ⟨q0, q1, qP, qK, qD⟩ := q; exact ⟨q0, q1, qP, va_K.moved (u := U) (U := U.calling g mk a) (Vm.Alike.refl U.vm) qK, qD⟩, va_recv hKc hPc (ci := 13) (q0 := 0) rfl rfl, fun U hU hW => ⟨rfl, by rw [hU], by rw [hU]; exact hPc, va_K.moved hW.alike hKc, hDc.weaken (fun _ _ _ _ => trivial)⟩⟩ rfl rfl hl.1 rfl (lv_room (Nat.le_of_ble_eq_true rfl)) dX13_back_42 ⟨Nat.le_of_ble_eq_true rfl, Nat.le_of_ble_eq_true rfl⟩) hS (fun q _ h => hFc q h) hFc ?_
        clear hS
        intro u t H1 locs ht hvm hw hB hz1 hk1 hS
        obtain ⟨z_4, rfl⟩ : ∃ z, z = u := ⟨_, rfl⟩
        obtain ⟨hP1, hK1, hD1⟩ := hB
        rw [ht] at hP1
        have hK1 := va_K.moved hvm.symm hK1
        try dsimp only at hw
        have hPD := va_join (wr := [(qf144, .inl (cf144, 2001, .inl f144)), (qf152, .inl (cf152, 60, .inl f152))]) (w1 := [(h0, .inr (13, z_4)), (qf153, .inl (cf153, 60, .inl g904_0)), (qf154, .inl (cf154, 3600, .inl g904_1))]) hP hD [2, 3, 4] [0, 1] rfl rfl (by decide) (by decide) hk1 hFc hP1 hD1
        clear hP hD
        obtain ⟨hP, hD⟩ := hPD
        replace hK := (hK.sub (tys' := [(cf144, .int), (cf152, .int)]) [0, 1] rfl).app hK1
        clear hPc hDc hKc hFc hP1 hK1 hD1 hz1 hk1 ht hvm
        generalize H1 = H at hP hS ⊢
        replace hP : va_P (dC, dI) vwCl [(qf144, .inl (cf144, 2001, .inl f144)), (qf152, .inl (cf152, 60, .inl f152)), (h0, .inr (13, z_4)), (qf153, .inl (cf153, 60, .inl g904_0)), (qf154, .inl (cf154, 3600, .inl g904_1))] H := hP
        replace hD : va_D A [(qf144, .inl (cf144, 2001, .inl f144)), (qf152, .inl (cf152, 60, .inl f152)), (h0, .inr (13, z_4)), (qf153, .inl (cf153, 60, .inl g904_0)), (qf154, .inl (cf154, 3600, .inl g904_1))] := hD
        replace hK : va_K (dC, dI) vwCl [(cf144, .int), (cf152, .int), (cf153, .int), (cf154, .int)] s := hK
        obtain ⟨hwa_4, hln_4, hre_4⟩ := hw
        have hfk_4_138 : z_4[138]? = some (.int v138) := (hre_4 138 ).trans (hfs_3_138)
        have hfk_4_139 : z_4[139]? = some (.int v139) := (hre_4 139 ).trans (hfs_3_139)
        have hfk_4_144 : z_4[144]? = some (.ref qf144) := (hre_4 144 ).trans (hfs_3_144)
        have hfk_4_149 : z_4[149]? = some (.int (v149 - 1)) := (hre_4 149 ).trans (hfs_3_149)
        have hfk_4_152 : z_4[152]? = some (.ref qf152) := (hre_4 152 ).trans (hfs_3_152)
        have hfk_4_153 : z_4[153]? = some (.ref qf153) := (hre_4 153 ).trans (hfs_3_153)
        have hfk_4_154 : z_4[154]? = some (.ref qf154) := (hre_4 154 ).trans (hfs_3_154)
        have hrq_4 : ∀ j : Nat, j ≠ 138 → j ≠ 139 → j ≠ 149 → z_4[j]? = zs[j]? := fun j g138 g139 g149 => (hre_4 j ).trans (hrs_4 j g138 g139 g149)
        refine lv_aload_n hx hb dX13_back_45 rfl (lv_at hl 1 rfl) ?_
        refine lv_iconst (v := 2) hx hb dX13_back_46 (by decide) ?_
        obtain ⟨g905_0, hu_5, hsp⟩ := ox_bind hsp
        try dsimp only at hsp
        have hPc := hP.sub (ws' := [(h0, .inr (13, z_4)), (qf152, .inl (cf152, 60, .inl f152))]) [2, 1] rfl
        have hDc := hD.sub (ws' := [(h0, .inr (13, z_4)), (qf152, .inl (cf152, 60, .inl f152))]) [2, 1] (by decide) rfl
        have hKc := hK.sub (tys' := [(cf152, .int)]) [1] rfl
        have hFc := va_free (wc := [(h0, .inr (13, z_4)), (qf152, .inl (cf152, 60, .inl f152))]) hD hS hA [2, 1] rfl
        refine va_callv (va_runV (As := [.int 2]) (rest := []) ⟨hx, hb, hml, hown, hts⟩ (tm_on l dC dI H.size h0 z_4 2 ((v149 - 1)) qf152 cf152 f152 nf g905_0 hln_4 hfk_4_149 hfk_4_152 hu_5) (cwV 1 hts gv_h6_29 rfl rfl rfl (by decide +kernel) ⟨Nat.le_of_ble_eq_true rfl, Nat.le_of_ble_eq_true rfl⟩) ⟨fun a U g mk q => by obtain ⟨q0, q1, qP, qK, qD⟩ := q; exact ⟨q0, q1, qP, va_K.moved (u := U) (U := U.calling g mk a) (Vm.Alike.refl U.vm) qK, qD⟩, va_recv hKc hPc (ci := 13) (q0 := 0) rfl rfl, fun U hU hW => ⟨rfl, by rw [hU], by rw [hU]; exact hPc, va_K.moved hW.alike hKc, hDc.weaken (fun _ _ _ _ => trivial)⟩⟩ rfl rfl hl.1 rfl (lv_room (Nat.le_of_ble_eq_true rfl)) dX13_back_47 ⟨Nat.le_of_ble_eq_true rfl, Nat.le_of_ble_eq_true rfl⟩) hS (fun q _ h => hFc q h) hFc ?_
        clear hS
        intro u t H1 locs ht hvm hw hB hz1 hk1 hS
        obtain ⟨z_5, rfl⟩ : ∃ z, z = u := ⟨_, rfl⟩
        obtain ⟨hP1, hK1, hD1⟩ := hB
        rw [ht] at hP1
        have hK1 := va_K.moved hvm.symm hK1
        try dsimp only at hw
        have hPD := va_join (wr := [(qf144, .inl (cf144, 2001, .inl f144)), (qf153, .inl (cf153, 60, .inl g904_0)), (qf154, .inl (cf154, 3600, .inl g904_1))]) (w1 := [(h0, .inr (13, z_5)), (qf152, .inl (cf152, 60, .inl g905_0))]) hP hD [2, 1] [0, 3, 4] rfl rfl (by decide) (by decide) hk1 hFc hP1 hD1
        clear hP hD
        obtain ⟨hP, hD⟩ := hPD
        replace hK := (hK.sub (tys' := [(cf144, .int), (cf153, .int), (cf154, .int)]) [0, 2, 3] rfl).app hK1
        clear hPc hDc hKc hFc hP1 hK1 hD1 hz1 hk1 ht hvm
        generalize H1 = H at hP hS ⊢
        replace hP : va_P (dC, dI) vwCl [(qf144, .inl (cf144, 2001, .inl f144)), (qf153, .inl (cf153, 60, .inl g904_0)), (qf154, .inl (cf154, 3600, .inl g904_1)), (h0, .inr (13, z_5)), (qf152, .inl (cf152, 60, .inl g905_0))] H := hP
        replace hD : va_D A [(qf144, .inl (cf144, 2001, .inl f144)), (qf153, .inl (cf153, 60, .inl g904_0)), (qf154, .inl (cf154, 3600, .inl g904_1)), (h0, .inr (13, z_5)), (qf152, .inl (cf152, 60, .inl g905_0))] := hD
        replace hK : va_K (dC, dI) vwCl [(cf144, .int), (cf153, .int), (cf154, .int), (cf152, .int)] s := hK
        obtain ⟨hwa_5, hln_5, hre_5⟩ := hw
        have hfk_5_138 : z_5[138]? = some (.int v138) := (hre_5 138 ).trans (hfk_4_138)
        have hfk_5_139 : z_5[139]? = some (.int v139) := (hre_5 139 ).trans (hfk_4_139)
        have hfk_5_144 : z_5[144]? = some (.ref qf144) := (hre_5 144 ).trans (hfk_4_144)
        have hfk_5_149 : z_5[149]? = some (.int (v149 - 1)) := (hre_5 149 ).trans (hfk_4_149)
        have hfk_5_152 : z_5[152]? = some (.ref qf152) := (hre_5 152 ).trans (hfk_4_152)
        have hfk_5_153 : z_5[153]? = some (.ref qf153) := (hre_5 153 ).trans (hfk_4_153)
        have hfk_5_154 : z_5[154]? = some (.ref qf154) := (hre_5 154 ).trans (hfk_4_154)
        have hrq_5 : ∀ j : Nat, j ≠ 138 → j ≠ 139 → j ≠ 149 → z_5[j]? = zs[j]? := fun j g138 g139 g149 => (hre_5 j ).trans (hrq_4 j g138 g139 g149)
        have hr0 := Option.some.inj hsp
        clear hsp
        obtain ⟨hq0, hr1⟩ := Prod.mk.inj hr0
        clear hr0
        obtain ⟨hq1, hr2⟩ := Prod.mk.inj hr1
        clear hr1
        obtain ⟨hq2, hr3⟩ := Prod.mk.inj hr2
        clear hr2
        obtain ⟨hq3, hr4⟩ := Prod.mk.inj hr3
        clear hr3
        obtain ⟨hq4, hr5⟩ := Prod.mk.inj hr4
        clear hr4
        subst hq0
        subst hq1
        subst hq2
        subst hq3
        subst hq4
        subst hr5
        have hP9 := hP.sub (ws' := [(h0, .inr (13, z_5)), (qf153, .inl (cf153, 60, .inl g904_0)), (qf154, .inl (cf154, 3600, .inl g904_1)), (qf144, .inl (cf144, 2001, .inl f144)), (qf152, .inl (cf152, 60, .inl g905_0))]) [3, 1, 2, 0, 4] rfl
        have hD9 := hD.sub (ws' := [(h0, .inr (13, z_5)), (qf153, .inl (cf153, 60, .inl g904_0)), (qf154, .inl (cf154, 3600, .inl g904_1)), (qf144, .inl (cf144, 2001, .inl f144)), (qf152, .inl (cf152, 60, .inl g905_0))]) [3, 1, 2, 0, 4] (by decide) rfl
        have hK9 := hK.sub (tys' := [(cf153, .int), (cf154, .int), (cf144, .int), (cf152, .int)]) [1, 2, 0, 3] rfl
        exact W.vret hx hb hr (fun t ht hW => ⟨⟨(z_5), rfl, ⟨trivial, hln_5, hrq_5, hfk_5_138, hfk_5_139, hfk_5_149⟩, by rw [ht]; exact hP9, va_K.moved hW.alike hK9, hD9⟩, hS.F ht⟩) hS.2.2 dX13_back_50
  · rw [if_pos c_1] at hsp
    refine lv_iconst (v := 0) hx hb dX13_back_7 (by decide) ?_
    refine lv_goto (tgt := 15) hx hb dX13_back_8 (by decide) ?_
    refine lv_istore_n (lv' := [(2, .int 0), (0, .ref h0), (1, .int a1)]) hx hb dX13_back_15 rfl hl (by decide) rfl (fun ls hl => ?_)
    refine lv_aload_n hx hb dX13_back_16 rfl (lv_at hl 1 rfl) ?_
    refine lv_dup hx hb dX13_back_17 rfl ?_
    refine va_get (D := (dC, dI)) (ci := 13) (v := .int v149) (C := RX13) (T := TX13) (N := 155) hx hb hts uV_h6_X13 hown hK hP 0 rfl rfl 149 (by decide) (hts (.fieldLink RX13 1058 "ClassMillModel" "depth" "I") mw_h6_138) (fun _ h9 => h9) hf149 dX13_back_18 ?_
    refine lv_iconst (v := 1) hx hb dX13_back_21 (by decide) ?_
    refine lv_isub hx hb dX13_back_22 ?_
    refine va_put (D := (dC, dI)) (ci := 13) (v := .int (v149 - 1)) (ty := .int) (C := RX13) (T := TX13) (N := 155) hx hb hts uV_h6_X13 tyX13 tyX13_ok nmX13 hown hK hP hD hS 0 rfl rfl 149 (by decide) (hts (.fieldLink RX13 1058 "ClassMillModel" "depth" "I") mw_h6_138) (fun _ h9 => h9) rfl (by decide +kernel) rfl rfl (by rw [hlen]; decide) dX13_back_23 ?_
    clear hP hD hS
    intro H locs hP hD hS
    obtain ⟨fs_17, efs_17⟩ : ∃ zf : List Value, zf = zs.set 149 (.int (v149 - 1)) := ⟨_, rfl⟩
    rw [← efs_17] at hP hD
    have hlfs_17 : fs_17.length = 155 := by rw [efs_17, List.length_set]; exact hlen
    have hfs_17_138 : fs_17[138]? = some (.int v138) := by rw [efs_17, List.getElem?_set_ne (by decide)]; exact hf138
    have hfs_17_139 : fs_17[139]? = some (.int v139) := by rw [efs_17, List.getElem?_set_ne (by decide)]; exact hf139
    have hfs_17_144 : fs_17[144]? = some (.ref qf144) := by rw [efs_17, List.getElem?_set_ne (by decide)]; exact hf144
    have hfs_17_152 : fs_17[152]? = some (.ref qf152) := by rw [efs_17, List.getElem?_set_ne (by decide)]; exact hf152
    have hfs_17_153 : fs_17[153]? = some (.ref qf153) := by rw [efs_17, List.getElem?_set_ne (by decide)]; exact hf153
    have hfs_17_154 : fs_17[154]? = some (.ref qf154) := by rw [efs_17, List.getElem?_set_ne (by decide)]; exact hf154
    have hfs_17_149 : fs_17[149]? = some (.int (v149 - 1)) := by rw [efs_17, List.getElem?_set_self (by rw [hlen]; decide)]
    replace hP : va_P (dC, dI) vwCl [(h0, .inr (13, fs_17)), (qf153, .inl (cf153, 60, .inl f153)), (qf154, .inl (cf154, 3600, .inl f154)), (qf144, .inl (cf144, 2001, .inl f144)), (qf152, .inl (cf152, 60, .inl f152))] H := hP
    replace hD : va_D A [(h0, .inr (13, fs_17)), (qf153, .inl (cf153, 60, .inl f153)), (qf154, .inl (cf154, 3600, .inl f154)), (qf144, .inl (cf144, 2001, .inl f144)), (qf152, .inl (cf152, 60, .inl f152))] := hD
    have hrs_18 : ∀ j : Nat, j ≠ 138 → j ≠ 139 → j ≠ 149 → fs_17[j]? = zs[j]? := fun j g138 g139 g149 => ((congrArg (fun z : List Value => z[j]?) efs_17).trans (List.getElem?_set_ne (Ne.symm g149))).trans (hrs0 j g138 g139 g149)
    refine lv_aload_n hx hb dX13_back_26 rfl (lv_at hl 1 rfl) ?_
    refine va_get (D := (dC, dI)) (ci := 13) (v := .int (v149 - 1)) (C := RX13) (T := TX13) (N := 155) hx hb hts uV_h6_X13 hown hK hP 0 rfl rfl 149 (by decide) (hts (.fieldLink RX13 1058 "ClassMillModel" "depth" "I") mw_h6_138) (fun _ h9 => h9) hfs_17_149 dX13_back_27 ?_
    refine lv_if_le (tgt := 51) hx hb dX13_back_30 (by decide) (fun c_19 => ?_) (fun c_19 => ?_)
    · rw [if_pos c_19] at hsp
      refine lv_aload_n hx hb dX13_back_51 rfl (lv_at hl 1 rfl) ?_
      refine lv_iconst (v := 2) hx hb dX13_back_52 (by decide) ?_
      refine va_put (D := (dC, dI)) (ci := 13) (v := .int 2) (ty := .int) (C := RX13) (T := TX13) (N := 155) hx hb hts uV_h6_X13 tyX13 tyX13_ok nmX13 hown hK hP hD hS 0 rfl rfl 138 (by decide) (hts (.fieldLink RX13 858 "ClassMillModel" "state" "I") mw_h6_160) (fun _ h9 => h9) rfl (by decide +kernel) rfl rfl (by rw [hlfs_17]; decide) dX13_back_53 ?_
      clear hP hD hS
      intro H locs hP hD hS
      obtain ⟨fs_20, efs_20⟩ : ∃ zf : List Value, zf = fs_17.set 138 (.int 2) := ⟨_, rfl⟩
      rw [← efs_20] at hP hD
      have hlfs_20 : fs_20.length = 155 := by rw [efs_20, List.length_set]; exact hlfs_17
      have hfs_20_139 : fs_20[139]? = some (.int v139) := by rw [efs_20, List.getElem?_set_ne (by decide)]; exact hfs_17_139
      have hfs_20_144 : fs_20[144]? = some (.ref qf144) := by rw [efs_20, List.getElem?_set_ne (by decide)]; exact hfs_17_144
      have hfs_20_152 : fs_20[152]? = some (.ref qf152) := by rw [efs_20, List.getElem?_set_ne (by decide)]; exact hfs_17_152
      have hfs_20_153 : fs_20[153]? = some (.ref qf153) := by rw [efs_20, List.getElem?_set_ne (by decide)]; exact hfs_17_153
      have hfs_20_154 : fs_20[154]? = some (.ref qf154) := by rw [efs_20, List.getElem?_set_ne (by decide)]; exact hfs_17_154
      have hfs_20_149 : fs_20[149]? = some (.int (v149 - 1)) := by rw [efs_20, List.getElem?_set_ne (by decide)]; exact hfs_17_149
      have hfs_20_138 : fs_20[138]? = some (.int 2) := by rw [efs_20, List.getElem?_set_self (by rw [hlfs_17]; decide)]
      replace hP : va_P (dC, dI) vwCl [(h0, .inr (13, fs_20)), (qf153, .inl (cf153, 60, .inl f153)), (qf154, .inl (cf154, 3600, .inl f154)), (qf144, .inl (cf144, 2001, .inl f144)), (qf152, .inl (cf152, 60, .inl f152))] H := hP
      replace hD : va_D A [(h0, .inr (13, fs_20)), (qf153, .inl (cf153, 60, .inl f153)), (qf154, .inl (cf154, 3600, .inl f154)), (qf144, .inl (cf144, 2001, .inl f144)), (qf152, .inl (cf152, 60, .inl f152))] := hD
      have hrs_21 : ∀ j : Nat, j ≠ 138 → j ≠ 139 → j ≠ 149 → fs_20[j]? = zs[j]? := fun j g138 g139 g149 => ((congrArg (fun z : List Value => z[j]?) efs_20).trans (List.getElem?_set_ne (Ne.symm g138))).trans (hrs_18 j g138 g139 g149)
      refine lv_iload_n hx hb dX13_back_56 rfl (lv_at hl 2 rfl) ?_
      refine lv_sipush (v := 172) hx hb dX13_back_57 (by decide) ?_
      refine lv_icmp_ne (tgt := 71) hx hb dX13_back_60 (by decide) (fun c_22 => ?_) (fun c_22 => ?_)
      · rw [if_neg c_22] at hsp
        refine lv_iload_n hx hb dX13_back_71 rfl (lv_at hl 2 rfl) ?_
        refine lv_sipush (v := 176) hx hb dX13_back_72 (by decide) ?_
        refine lv_icmp_ne (tgt := 91) hx hb dX13_back_75 (by decide) (fun c_23 => ?_) (fun c_23 => ?_)
        · rw [if_neg c_23] at hsp
          have hr0 := Option.some.inj hsp
          clear hsp
          obtain ⟨hq0, hr1⟩ := Prod.mk.inj hr0
          clear hr0
          obtain ⟨hq1, hr2⟩ := Prod.mk.inj hr1
          clear hr1
          obtain ⟨hq2, hr3⟩ := Prod.mk.inj hr2
          clear hr2
          obtain ⟨hq3, hr4⟩ := Prod.mk.inj hr3
          clear hr3
          obtain ⟨hq4, hr5⟩ := Prod.mk.inj hr4
          clear hr4
          subst hq0
          subst hq1
          subst hq2
          subst hq3
          subst hq4
          subst hr5
          have hP9 := hP.sub (ws' := [(h0, .inr (13, fs_20)), (qf153, .inl (cf153, 60, .inl f153)), (qf154, .inl (cf154, 3600, .inl f154)), (qf144, .inl (cf144, 2001, .inl f144)), (qf152, .inl (cf152, 60, .inl f152))]) [0, 1, 2, 3, 4] rfl
          have hD9 := hD.sub (ws' := [(h0, .inr (13, fs_20)), (qf153, .inl (cf153, 60, .inl f153)), (qf154, .inl (cf154, 3600, .inl f154)), (qf144, .inl (cf144, 2001, .inl f144)), (qf152, .inl (cf152, 60, .inl f152))]) [0, 1, 2, 3, 4] (by decide) rfl
          have hK9 := hK.sub (tys' := [(cf153, .int), (cf154, .int), (cf144, .int), (cf152, .int)]) [0, 1, 2, 3] rfl
          exact W.vret hx hb hr (fun t ht hW => ⟨⟨(fs_20), rfl, ⟨trivial, hlfs_20, hrs_21, hfs_20_138, hfs_20_139, hfs_20_149⟩, by rw [ht]; exact hP9, va_K.moved hW.alike hK9, hD9⟩, hS.F ht⟩) hS.2.2 dX13_back_91
        · rw [if_pos c_23] at hsp
          refine lv_iload_n hx hb dX13_back_78 rfl (lv_at hl 0 rfl) ?_
          refine lv_if_eq (tgt := 91) hx hb dX13_back_79 (by decide) (fun c_24 => ?_) (fun c_24 => (show False by revert c_24; decide).elim)
          have hr0 := Option.some.inj hsp
          clear hsp
          obtain ⟨hq0, hr1⟩ := Prod.mk.inj hr0
          clear hr0
          obtain ⟨hq1, hr2⟩ := Prod.mk.inj hr1
          clear hr1
          obtain ⟨hq2, hr3⟩ := Prod.mk.inj hr2
          clear hr2
          obtain ⟨hq3, hr4⟩ := Prod.mk.inj hr3
          clear hr3
          obtain ⟨hq4, hr5⟩ := Prod.mk.inj hr4
          clear hr4
          subst hq0
          subst hq1
          subst hq2
          subst hq3
          subst hq4
          subst hr5
          have hP9 := hP.sub (ws' := [(h0, .inr (13, fs_20)), (qf153, .inl (cf153, 60, .inl f153)), (qf154, .inl (cf154, 3600, .inl f154)), (qf144, .inl (cf144, 2001, .inl f144)), (qf152, .inl (cf152, 60, .inl f152))]) [0, 1, 2, 3, 4] rfl
          have hD9 := hD.sub (ws' := [(h0, .inr (13, fs_20)), (qf153, .inl (cf153, 60, .inl f153)), (qf154, .inl (cf154, 3600, .inl f154)), (qf144, .inl (cf144, 2001, .inl f144)), (qf152, .inl (cf152, 60, .inl f152))]) [0, 1, 2, 3, 4] (by decide) rfl
          have hK9 := hK.sub (tys' := [(cf153, .int), (cf154, .int), (cf144, .int), (cf152, .int)]) [0, 1, 2, 3] rfl
          exact W.vret hx hb hr (fun t ht hW => ⟨⟨(fs_20), rfl, ⟨trivial, hlfs_20, hrs_21, hfs_20_138, hfs_20_139, hfs_20_149⟩, by rw [ht]; exact hP9, va_K.moved hW.alike hK9, hD9⟩, hS.F ht⟩) hS.2.2 dX13_back_91
      · rw [if_pos c_22] at hsp
        refine lv_aload_n hx hb dX13_back_63 rfl (lv_at hl 1 rfl) ?_
        refine lv_iload_n hx hb dX13_back_64 rfl (lv_at hl 0 rfl) ?_
        refine va_put (D := (dC, dI)) (ci := 13) (v := .int 0) (ty := .int) (C := RX13) (T := TX13) (N := 155) hx hb hts uV_h6_X13 tyX13 tyX13_ok nmX13 hown hK hP hD hS 0 rfl rfl 139 (by decide) (hts (.fieldLink RX13 1043 "ClassMillModel" "gave" "I") mw_h6_161) (fun _ h9 => h9) rfl (by decide +kernel) rfl rfl (by rw [hlfs_20]; decide) dX13_back_65 ?_
        clear hP hD hS
        intro H locs hP hD hS
        obtain ⟨fs_25, efs_25⟩ : ∃ zf : List Value, zf = fs_20.set 139 (.int 0) := ⟨_, rfl⟩
        rw [← efs_25] at hP hD
        have hlfs_25 : fs_25.length = 155 := by rw [efs_25, List.length_set]; exact hlfs_20
        have hfs_25_144 : fs_25[144]? = some (.ref qf144) := by rw [efs_25, List.getElem?_set_ne (by decide)]; exact hfs_20_144
        have hfs_25_152 : fs_25[152]? = some (.ref qf152) := by rw [efs_25, List.getElem?_set_ne (by decide)]; exact hfs_20_152
        have hfs_25_153 : fs_25[153]? = some (.ref qf153) := by rw [efs_25, List.getElem?_set_ne (by decide)]; exact hfs_20_153
        have hfs_25_154 : fs_25[154]? = some (.ref qf154) := by rw [efs_25, List.getElem?_set_ne (by decide)]; exact hfs_20_154
        have hfs_25_149 : fs_25[149]? = some (.int (v149 - 1)) := by rw [efs_25, List.getElem?_set_ne (by decide)]; exact hfs_20_149
        have hfs_25_138 : fs_25[138]? = some (.int 2) := by rw [efs_25, List.getElem?_set_ne (by decide)]; exact hfs_20_138
        have hfs_25_139 : fs_25[139]? = some (.int 0) := by rw [efs_25, List.getElem?_set_self (by rw [hlfs_20]; decide)]
        replace hP : va_P (dC, dI) vwCl [(h0, .inr (13, fs_25)), (qf153, .inl (cf153, 60, .inl f153)), (qf154, .inl (cf154, 3600, .inl f154)), (qf144, .inl (cf144, 2001, .inl f144)), (qf152, .inl (cf152, 60, .inl f152))] H := hP
        replace hD : va_D A [(h0, .inr (13, fs_25)), (qf153, .inl (cf153, 60, .inl f153)), (qf154, .inl (cf154, 3600, .inl f154)), (qf144, .inl (cf144, 2001, .inl f144)), (qf152, .inl (cf152, 60, .inl f152))] := hD
        have hrs_26 : ∀ j : Nat, j ≠ 138 → j ≠ 139 → j ≠ 149 → fs_25[j]? = zs[j]? := fun j g138 g139 g149 => ((congrArg (fun z : List Value => z[j]?) efs_25).trans (List.getElem?_set_ne (Ne.symm g139))).trans (hrs_21 j g138 g139 g149)
        refine lv_goto (tgt := 91) hx hb dX13_back_68 (by decide) ?_
        have hr0 := Option.some.inj hsp
        clear hsp
        obtain ⟨hq0, hr1⟩ := Prod.mk.inj hr0
        clear hr0
        obtain ⟨hq1, hr2⟩ := Prod.mk.inj hr1
        clear hr1
        obtain ⟨hq2, hr3⟩ := Prod.mk.inj hr2
        clear hr2
        obtain ⟨hq3, hr4⟩ := Prod.mk.inj hr3
        clear hr3
        obtain ⟨hq4, hr5⟩ := Prod.mk.inj hr4
        clear hr4
        subst hq0
        subst hq1
        subst hq2
        subst hq3
        subst hq4
        subst hr5
        have hP9 := hP.sub (ws' := [(h0, .inr (13, fs_25)), (qf153, .inl (cf153, 60, .inl f153)), (qf154, .inl (cf154, 3600, .inl f154)), (qf144, .inl (cf144, 2001, .inl f144)), (qf152, .inl (cf152, 60, .inl f152))]) [0, 1, 2, 3, 4] rfl
        have hD9 := hD.sub (ws' := [(h0, .inr (13, fs_25)), (qf153, .inl (cf153, 60, .inl f153)), (qf154, .inl (cf154, 3600, .inl f154)), (qf144, .inl (cf144, 2001, .inl f144)), (qf152, .inl (cf152, 60, .inl f152))]) [0, 1, 2, 3, 4] (by decide) rfl
        have hK9 := hK.sub (tys' := [(cf153, .int), (cf154, .int), (cf144, .int), (cf152, .int)]) [0, 1, 2, 3] rfl
        exact W.vret hx hb hr (fun t ht hW => ⟨⟨(fs_25), rfl, ⟨trivial, hlfs_25, hrs_26, hfs_25_138, hfs_25_139, hfs_25_149⟩, by rw [ht]; exact hP9, va_K.moved hW.alike hK9, hD9⟩, hS.F ht⟩) hS.2.2 dX13_back_91
    · rw [if_neg c_19] at hsp
      refine lv_iload_n hx hb dX13_back_33 rfl (lv_at hl 2 rfl) ?_
      refine lv_sipush (v := 177) hx hb dX13_back_34 (by decide) ?_
      refine lv_icmp_eq (tgt := 45) hx hb dX13_back_37 (by decide) (fun c_27 => ?_) (fun c_27 => ?_)
      · rw [if_pos c_27] at hsp
        refine lv_aload_n hx hb dX13_back_45 rfl (lv_at hl 1 rfl) ?_
        refine lv_iconst (v := 2) hx hb dX13_back_46 (by decide) ?_
        obtain ⟨g906_0, hu_6, hsp⟩ := ox_bind hsp
        try dsimp only at hsp
        have hPc := hP.sub (ws' := [(h0, .inr (13, fs_17)), (qf152, .inl (cf152, 60, .inl f152))]) [0, 4] rfl
        have hDc := hD.sub (ws' := [(h0, .inr (13, fs_17)), (qf152, .inl (cf152, 60, .inl f152))]) [0, 4] (by decide) rfl
        have hKc := hK.sub (tys' := [(cf152, .int)]) [3] rfl
        have hFc := va_free (wc := [(h0, .inr (13, fs_17)), (qf152, .inl (cf152, 60, .inl f152))]) hD hS hA [0, 4] rfl
        refine va_callv (va_runV (As := [.int 2]) (rest := []) ⟨hx, hb, hml, hown, hts⟩ (tm_on l dC dI H.size h0 fs_17 2 ((v149 - 1)) qf152 cf152 f152 nf g906_0 hlfs_17 hfs_17_149 hfs_17_152 hu_6) (cwV 1 hts gv_h6_29 rfl rfl rfl (by decide +kernel) ⟨Nat.le_of_ble_eq_true rfl, Nat.le_of_ble_eq_true rfl⟩) ⟨fun a U g mk q => by obtain ⟨q0, q1, qP, qK, qD⟩ := q; exact ⟨q0, q1, qP, va_K.moved (u := U) (U := U.calling g mk a) (Vm.Alike.refl U.vm) qK, qD⟩, va_recv hKc hPc (ci := 13) (q0 := 0) rfl rfl, fun U hU hW => ⟨rfl, by rw [hU], by rw [hU]; exact hPc, va_K.moved hW.alike hKc, hDc.weaken (fun _ _ _ _ => trivial)⟩⟩ rfl rfl hl.1 rfl (lv_room (Nat.le_of_ble_eq_true rfl)) dX13_back_47 ⟨Nat.le_of_ble_eq_true rfl, Nat.le_of_ble_eq_true rfl⟩) hS (fun q _ h => hFc q h) hFc ?_
        clear hS
        intro u t H1 locs ht hvm hw hB hz1 hk1 hS
        obtain ⟨z_6, rfl⟩ : ∃ z, z = u := ⟨_, rfl⟩
        obtain ⟨hP1, hK1, hD1⟩ := hB
        rw [ht] at hP1
        have hK1 := va_K.moved hvm.symm hK1
        try dsimp only at hw
        have hPD := va_join (wr := [(qf153, .inl (cf153, 60, .inl f153)), (qf154, .inl (cf154, 3600, .inl f154)), (qf144, .inl (cf144, 2001, .inl f144))]) (w1 := [(h0, .inr (13, z_6)), (qf152, .inl (cf152, 60, .inl g906_0))]) hP hD [0, 4] [1, 2, 3] rfl rfl (by decide) (by decide) hk1 hFc hP1 hD1
        clear hP hD
        obtain ⟨hP, hD⟩ := hPD
        replace hK := (hK.sub (tys' := [(cf153, .int), (cf154, .int), (cf144, .int)]) [0, 1, 2] rfl).app hK1
        clear hPc hDc hKc hFc hP1 hK1 hD1 hz1 hk1 ht hvm
        generalize H1 = H at hP hS ⊢
        replace hP : va_P (dC, dI) vwCl [(qf153, .inl (cf153, 60, .inl f153)), (qf154, .inl (cf154, 3600, .inl f154)), (qf144, .inl (cf144, 2001, .inl f144)), (h0, .inr (13, z_6)), (qf152, .inl (cf152, 60, .inl g906_0))] H := hP
        replace hD : va_D A [(qf153, .inl (cf153, 60, .inl f153)), (qf154, .inl (cf154, 3600, .inl f154)), (qf144, .inl (cf144, 2001, .inl f144)), (h0, .inr (13, z_6)), (qf152, .inl (cf152, 60, .inl g906_0))] := hD
        replace hK : va_K (dC, dI) vwCl [(cf153, .int), (cf154, .int), (cf144, .int), (cf152, .int)] s := hK
        obtain ⟨hwa_6, hln_6, hre_6⟩ := hw
        have hfk_6_138 : z_6[138]? = some (.int v138) := (hre_6 138 ).trans (hfs_17_138)
        have hfk_6_139 : z_6[139]? = some (.int v139) := (hre_6 139 ).trans (hfs_17_139)
        have hfk_6_144 : z_6[144]? = some (.ref qf144) := (hre_6 144 ).trans (hfs_17_144)
        have hfk_6_149 : z_6[149]? = some (.int (v149 - 1)) := (hre_6 149 ).trans (hfs_17_149)
        have hfk_6_152 : z_6[152]? = some (.ref qf152) := (hre_6 152 ).trans (hfs_17_152)
        have hfk_6_153 : z_6[153]? = some (.ref qf153) := (hre_6 153 ).trans (hfs_17_153)
        have hfk_6_154 : z_6[154]? = some (.ref qf154) := (hre_6 154 ).trans (hfs_17_154)
        have hrq_6 : ∀ j : Nat, j ≠ 138 → j ≠ 139 → j ≠ 149 → z_6[j]? = zs[j]? := fun j g138 g139 g149 => (hre_6 j ).trans (hrs_18 j g138 g139 g149)
        have hr0 := Option.some.inj hsp
        clear hsp
        obtain ⟨hq0, hr1⟩ := Prod.mk.inj hr0
        clear hr0
        obtain ⟨hq1, hr2⟩ := Prod.mk.inj hr1
        clear hr1
        obtain ⟨hq2, hr3⟩ := Prod.mk.inj hr2
        clear hr2
        obtain ⟨hq3, hr4⟩ := Prod.mk.inj hr3
        clear hr3
        obtain ⟨hq4, hr5⟩ := Prod.mk.inj hr4
        clear hr4
        subst hq0
        subst hq1
        subst hq2
        subst hq3
        subst hq4
        subst hr5
        have hP9 := hP.sub (ws' := [(h0, .inr (13, z_6)), (qf153, .inl (cf153, 60, .inl f153)), (qf154, .inl (cf154, 3600, .inl f154)), (qf144, .inl (cf144, 2001, .inl f144)), (qf152, .inl (cf152, 60, .inl g906_0))]) [3, 0, 1, 2, 4] rfl
        have hD9 := hD.sub (ws' := [(h0, .inr (13, z_6)), (qf153, .inl (cf153, 60, .inl f153)), (qf154, .inl (cf154, 3600, .inl f154)), (qf144, .inl (cf144, 2001, .inl f144)), (qf152, .inl (cf152, 60, .inl g906_0))]) [3, 0, 1, 2, 4] (by decide) rfl
        have hK9 := hK.sub (tys' := [(cf153, .int), (cf154, .int), (cf144, .int), (cf152, .int)]) [0, 1, 2, 3] rfl
        exact W.vret hx hb hr (fun t ht hW => ⟨⟨(z_6), rfl, ⟨trivial, hln_6, hrq_6, hfk_6_138, hfk_6_139, hfk_6_149⟩, by rw [ht]; exact hP9, va_K.moved hW.alike hK9, hD9⟩, hS.F ht⟩) hS.2.2 dX13_back_50
      · rw [if_neg c_27] at hsp
        refine lv_aload_n hx hb dX13_back_40 rfl (lv_at hl 1 rfl) ?_
        refine lv_iload_n hx hb dX13_back_41 rfl (lv_at hl 0 rfl) ?_
        obtain ⟨⟨g907_0, g907_1⟩, hu_7, hsp⟩ := ox_bind hsp
        try dsimp only at hsp
        have hPc := hP.sub (ws' := [(h0, .inr (13, fs_17)), (qf153, .inl (cf153, 60, .inl f153)), (qf154, .inl (cf154, 3600, .inl f154))]) [0, 1, 2] rfl
        have hDc := hD.sub (ws' := [(h0, .inr (13, fs_17)), (qf153, .inl (cf153, 60, .inl f153)), (qf154, .inl (cf154, 3600, .inl f154))]) [0, 1, 2] (by decide) rfl
        have hKc := hK.sub (tys' := [(cf153, .int), (cf154, .int)]) [0, 1] rfl
        have hFc := va_free (wc := [(h0, .inr (13, fs_17)), (qf153, .inl (cf153, 60, .inl f153)), (qf154, .inl (cf154, 3600, .inl f154))]) hD hS hA [0, 1, 2] rfl
        refine va_callv (va_runV (As := [.int 0]) (rest := []) ⟨hx, hb, hml, hown, hts⟩ (tm_give l dC dI H.size h0 fs_17 0 ((v149 - 1)) qf153 qf154 cf153 f153 cf154 f154 nf g907_0 g907_1 hlfs_17 hfs_17_149 hfs_17_153 hfs_17_154 hu_7) (cwV 1 hts gv_h6_30 rfl rfl rfl (by decide +kernel) ⟨Nat.le_of_ble_eq_true rfl, Nat.le_of_ble_eq_true rfl⟩) ⟨fun a U g mk q => by obtain ⟨q0, q1, qP, qK, qD⟩ := q; exact ⟨q0, q1, qP, va_K.moved (u := U) (U := U.calling g mk a) (Vm.Alike.refl U.vm) qK, qD⟩, va_recv hKc hPc (ci := 13) (q0 := 0) rfl rfl, fun U hU hW => ⟨rfl, by rw [hU], by rw [hU]; exact hPc, va_K.moved hW.alike hKc, hDc.weaken (fun _ _ _ _ => trivial)⟩⟩ rfl rfl hl.1 rfl (lv_room (Nat.le_of_ble_eq_true rfl)) dX13_back_42 ⟨Nat.le_of_ble_eq_true rfl, Nat.le_of_ble_eq_true rfl⟩) hS (fun q _ h => hFc q h) hFc ?_
        clear hS
        intro u t H1 locs ht hvm hw hB hz1 hk1 hS
        obtain ⟨z_7, rfl⟩ : ∃ z, z = u := ⟨_, rfl⟩
        obtain ⟨hP1, hK1, hD1⟩ := hB
        rw [ht] at hP1
        have hK1 := va_K.moved hvm.symm hK1
        try dsimp only at hw
        have hPD := va_join (wr := [(qf144, .inl (cf144, 2001, .inl f144)), (qf152, .inl (cf152, 60, .inl f152))]) (w1 := [(h0, .inr (13, z_7)), (qf153, .inl (cf153, 60, .inl g907_0)), (qf154, .inl (cf154, 3600, .inl g907_1))]) hP hD [0, 1, 2] [3, 4] rfl rfl (by decide) (by decide) hk1 hFc hP1 hD1
        clear hP hD
        obtain ⟨hP, hD⟩ := hPD
        replace hK := (hK.sub (tys' := [(cf144, .int), (cf152, .int)]) [2, 3] rfl).app hK1
        clear hPc hDc hKc hFc hP1 hK1 hD1 hz1 hk1 ht hvm
        generalize H1 = H at hP hS ⊢
        replace hP : va_P (dC, dI) vwCl [(qf144, .inl (cf144, 2001, .inl f144)), (qf152, .inl (cf152, 60, .inl f152)), (h0, .inr (13, z_7)), (qf153, .inl (cf153, 60, .inl g907_0)), (qf154, .inl (cf154, 3600, .inl g907_1))] H := hP
        replace hD : va_D A [(qf144, .inl (cf144, 2001, .inl f144)), (qf152, .inl (cf152, 60, .inl f152)), (h0, .inr (13, z_7)), (qf153, .inl (cf153, 60, .inl g907_0)), (qf154, .inl (cf154, 3600, .inl g907_1))] := hD
        replace hK : va_K (dC, dI) vwCl [(cf144, .int), (cf152, .int), (cf153, .int), (cf154, .int)] s := hK
        obtain ⟨hwa_7, hln_7, hre_7⟩ := hw
        have hfk_7_138 : z_7[138]? = some (.int v138) := (hre_7 138 ).trans (hfs_17_138)
        have hfk_7_139 : z_7[139]? = some (.int v139) := (hre_7 139 ).trans (hfs_17_139)
        have hfk_7_144 : z_7[144]? = some (.ref qf144) := (hre_7 144 ).trans (hfs_17_144)
        have hfk_7_149 : z_7[149]? = some (.int (v149 - 1)) := (hre_7 149 ).trans (hfs_17_149)
        have hfk_7_152 : z_7[152]? = some (.ref qf152) := (hre_7 152 ).trans (hfs_17_152)
        have hfk_7_153 : z_7[153]? = some (.ref qf153) := (hre_7 153 ).trans (hfs_17_153)
        have hfk_7_154 : z_7[154]? = some (.ref qf154) := (hre_7 154 ).trans (hfs_17_154)
        have hrq_7 : ∀ j : Nat, j ≠ 138 → j ≠ 139 → j ≠ 149 → z_7[j]? = zs[j]? := fun j g138 g139 g149 => (hre_7 j ).trans (hrs_18 j g138 g139 g149)
        refine lv_aload_n hx hb dX13_back_45 rfl (lv_at hl 1 rfl) ?_
        refine lv_iconst (v := 2) hx hb dX13_back_46 (by decide) ?_
        obtain ⟨g908_0, hu_8, hsp⟩ := ox_bind hsp
        try dsimp only at hsp
        have hPc := hP.sub (ws' := [(h0, .inr (13, z_7)), (qf152, .inl (cf152, 60, .inl f152))]) [2, 1] rfl
        have hDc := hD.sub (ws' := [(h0, .inr (13, z_7)), (qf152, .inl (cf152, 60, .inl f152))]) [2, 1] (by decide) rfl
        have hKc := hK.sub (tys' := [(cf152, .int)]) [1] rfl
        have hFc := va_free (wc := [(h0, .inr (13, z_7)), (qf152, .inl (cf152, 60, .inl f152))]) hD hS hA [2, 1] rfl
        refine va_callv (va_runV (As := [.int 2]) (rest := []) ⟨hx, hb, hml, hown, hts⟩ (tm_on l dC dI H.size h0 z_7 2 ((v149 - 1)) qf152 cf152 f152 nf g908_0 hln_7 hfk_7_149 hfk_7_152 hu_8) (cwV 1 hts gv_h6_29 rfl rfl rfl (by decide +kernel) ⟨Nat.le_of_ble_eq_true rfl, Nat.le_of_ble_eq_true rfl⟩) ⟨fun a U g mk q => by obtain ⟨q0, q1, qP, qK, qD⟩ := q; exact ⟨q0, q1, qP, va_K.moved (u := U) (U := U.calling g mk a) (Vm.Alike.refl U.vm) qK, qD⟩, va_recv hKc hPc (ci := 13) (q0 := 0) rfl rfl, fun U hU hW => ⟨rfl, by rw [hU], by rw [hU]; exact hPc, va_K.moved hW.alike hKc, hDc.weaken (fun _ _ _ _ => trivial)⟩⟩ rfl rfl hl.1 rfl (lv_room (Nat.le_of_ble_eq_true rfl)) dX13_back_47 ⟨Nat.le_of_ble_eq_true rfl, Nat.le_of_ble_eq_true rfl⟩) hS (fun q _ h => hFc q h) hFc ?_
        clear hS
        intro u t H1 locs ht hvm hw hB hz1 hk1 hS
        obtain ⟨z_8, rfl⟩ : ∃ z, z = u := ⟨_, rfl⟩
        obtain ⟨hP1, hK1, hD1⟩ := hB
        rw [ht] at hP1
        have hK1 := va_K.moved hvm.symm hK1
        try dsimp only at hw
        have hPD := va_join (wr := [(qf144, .inl (cf144, 2001, .inl f144)), (qf153, .inl (cf153, 60, .inl g907_0)), (qf154, .inl (cf154, 3600, .inl g907_1))]) (w1 := [(h0, .inr (13, z_8)), (qf152, .inl (cf152, 60, .inl g908_0))]) hP hD [2, 1] [0, 3, 4] rfl rfl (by decide) (by decide) hk1 hFc hP1 hD1
        clear hP hD
        obtain ⟨hP, hD⟩ := hPD
        replace hK := (hK.sub (tys' := [(cf144, .int), (cf153, .int), (cf154, .int)]) [0, 2, 3] rfl).app hK1
        clear hPc hDc hKc hFc hP1 hK1 hD1 hz1 hk1 ht hvm
        generalize H1 = H at hP hS ⊢
        replace hP : va_P (dC, dI) vwCl [(qf144, .inl (cf144, 2001, .inl f144)), (qf153, .inl (cf153, 60, .inl g907_0)), (qf154, .inl (cf154, 3600, .inl g907_1)), (h0, .inr (13, z_8)), (qf152, .inl (cf152, 60, .inl g908_0))] H := hP
        replace hD : va_D A [(qf144, .inl (cf144, 2001, .inl f144)), (qf153, .inl (cf153, 60, .inl g907_0)), (qf154, .inl (cf154, 3600, .inl g907_1)), (h0, .inr (13, z_8)), (qf152, .inl (cf152, 60, .inl g908_0))] := hD
        replace hK : va_K (dC, dI) vwCl [(cf144, .int), (cf153, .int), (cf154, .int), (cf152, .int)] s := hK
        obtain ⟨hwa_8, hln_8, hre_8⟩ := hw
        have hfk_8_138 : z_8[138]? = some (.int v138) := (hre_8 138 ).trans (hfk_7_138)
        have hfk_8_139 : z_8[139]? = some (.int v139) := (hre_8 139 ).trans (hfk_7_139)
        have hfk_8_144 : z_8[144]? = some (.ref qf144) := (hre_8 144 ).trans (hfk_7_144)
        have hfk_8_149 : z_8[149]? = some (.int (v149 - 1)) := (hre_8 149 ).trans (hfk_7_149)
        have hfk_8_152 : z_8[152]? = some (.ref qf152) := (hre_8 152 ).trans (hfk_7_152)
        have hfk_8_153 : z_8[153]? = some (.ref qf153) := (hre_8 153 ).trans (hfk_7_153)
        have hfk_8_154 : z_8[154]? = some (.ref qf154) := (hre_8 154 ).trans (hfk_7_154)
        have hrq_8 : ∀ j : Nat, j ≠ 138 → j ≠ 139 → j ≠ 149 → z_8[j]? = zs[j]? := fun j g138 g139 g149 => (hre_8 j ).trans (hrq_7 j g138 g139 g149)
        have hr0 := Option.some.inj hsp
        clear hsp
        obtain ⟨hq0, hr1⟩ := Prod.mk.inj hr0
        clear hr0
        obtain ⟨hq1, hr2⟩ := Prod.mk.inj hr1
        clear hr1
        obtain ⟨hq2, hr3⟩ := Prod.mk.inj hr2
        clear hr2
        obtain ⟨hq3, hr4⟩ := Prod.mk.inj hr3
        clear hr3
        obtain ⟨hq4, hr5⟩ := Prod.mk.inj hr4
        clear hr4
        subst hq0
        subst hq1
        subst hq2
        subst hq3
        subst hq4
        subst hr5
        have hP9 := hP.sub (ws' := [(h0, .inr (13, z_8)), (qf153, .inl (cf153, 60, .inl g907_0)), (qf154, .inl (cf154, 3600, .inl g907_1)), (qf144, .inl (cf144, 2001, .inl f144)), (qf152, .inl (cf152, 60, .inl g908_0))]) [3, 1, 2, 0, 4] rfl
        have hD9 := hD.sub (ws' := [(h0, .inr (13, z_8)), (qf153, .inl (cf153, 60, .inl g907_0)), (qf154, .inl (cf154, 3600, .inl g907_1)), (qf144, .inl (cf144, 2001, .inl f144)), (qf152, .inl (cf152, 60, .inl g908_0))]) [3, 1, 2, 0, 4] (by decide) rfl
        have hK9 := hK.sub (tys' := [(cf153, .int), (cf154, .int), (cf144, .int), (cf152, .int)]) [1, 2, 0, 3] rfl
        exact W.vret hx hb hr (fun t ht hW => ⟨⟨(z_8), rfl, ⟨trivial, hln_8, hrq_8, hfk_8_138, hfk_8_139, hfk_8_149⟩, by rw [ht]; exact hP9, va_K.moved hW.alike hK9, hD9⟩, hS.F ht⟩) hS.2.2 dX13_back_50
def sp_tn_isLed (nf : Nat) (a1 : Int32) (v28 : Int32) (v50 : Int32) (v52 : Int32) (f11 : Nat → Int32) (f14 : Nat → Int32) (f21 : Nat → Int32) (f12 : Nat → Int32) (f48 : Nat → Int32) (f6 : Nat → Int32) (f5 : Nat → Int32) (f2 : Nat → Int32) (f27 : Nat → Int32) (f29 : Nat → Int32) (f30 : Nat → Int32) (f34 : Nat → Int32) : Option (Int32) := (if a1 < 0 then none else if 9000 ≤ (a1 : Int32).toNatClampNeg then none else (if (f11 (a1 : Int32).toNatClampNeg) = 37 then (some 1) else (if (f11 (a1 : Int32).toNatClampNeg) = 38 then (some 1) else (if (f11 (a1 : Int32).toNatClampNeg) = 30 then (some 1) else (if (f11 (a1 : Int32).toNatClampNeg) = 32 then (some 1) else (if (f11 (a1 : Int32).toNatClampNeg) = 31 then ((sp_tn_isByClass nf a1 v28 v50 v52 f14 f11 f21 f12 f48 f6 f5 f2 f27 f29 f30 f34).bind (fun p1 => (if p1 = 0 then (some 1) else (some 0)))) else (some 0)))))))
