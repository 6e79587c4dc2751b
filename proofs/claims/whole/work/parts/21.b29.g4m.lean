set_option maxHeartbeats 4000000 in
set_option maxRecDepth 100000 in
/-- ClassMillModel.typeOfClass -/
theorem vm_typeOfClass (l : Launch) (dC : Nat → ClassId) (dI : Nat → Nat → Nat) (sz : Nat) (h0 : Nat) (zs : (List Value)) (a1 : Int32) (a2 : Int32) (v98 : Int32) (qf100 : Nat) (qf102 : Nat) (qf104 : Nat) (v117 : Int32) (qf118 : Nat) (qf119 : Nat) (v120 : Int32) (cf102 : ClassId) (f102 : (Nat → Int32)) (cf100 : ClassId) (f100 : (Nat → Int32)) (cf104 : ClassId) (f104 : (Nat → Int32)) (cf118 : ClassId) (f118 : (Nat → Int32)) (cf119 : ClassId) (f119 : (Nat → Int32)) (nS477 : Nat) (fS477 : (Nat → Int32)) (hS477 : Nat) (qS477 : Nat) (tS477 : String) (nf : Nat) (r0 : Int32) (o118 : (Nat → Int32)) (o119 : (Nat → Int32)) (w117 : Int32) (w120 : Int32) (hlen : zs.length = 155) (hf98 : zs[98]? = some (.int v98)) (hf100 : zs[100]? = some (.ref qf100)) (hf102 : zs[102]? = some (.ref qf102)) (hf104 : zs[104]? = some (.ref qf104)) (hf117 : zs[117]? = some (.int v117)) (hf118 : zs[118]? = some (.ref qf118)) (hf119 : zs[119]? = some (.ref qf119)) (hf120 : zs[120]? = some (.int v120)) (hsp : sp_vm_typeOfClass nf a1 a2 v98 v117 v120 f102 f100 f104 f118 f119 nS477 fS477 = some (r0, o118, o119, w117, w120)) : Met l yX13_typeOfClass (.code yX13_typeOfClass cX13_typeOfClass 5 (some .int) :: VS_h9) ({ frames := 8, cells := 0, slots := 0, locals := 187 }) (va_Pc [.ref h0, .int a1, .int a2] (fun U => U.heap.size = sz ∧ va_P (dC, dI) vwCl [(h0, .inr (13, zs)), (qf102, .inl (cf102, 2048, .inl f102)), (qf100, .inl (cf100, 48000, .inl f100)), (qf104, .inl (cf104, 8, .inl f104)), (qf118, .inl (cf118, 2100, .inl f118)), (qf119, .inl (cf119, 2100, .inl f119))] U.heap ∧ va_K (dC, dI) vwCl [(cf102, .int), (cf100, .int), (cf104, .int), (cf118, .int), (cf119, .int)] U ∧ va_D (fun _ => True) [(h0, .inr (13, zs)), (qf102, .inl (cf102, 2048, .inl f102)), (qf100, .inl (cf100, 48000, .inl f100)), (qf104, .inl (cf104, 8, .inl f104)), (qf118, .inl (cf118, 2100, .inl f118)), (qf119, .inl (cf119, 2100, .inl f119))] ∧ pz_W nS477 fS477 hS477 qS477 (va_A [(h0, .inr (13, zs)), (qf102, .inl (cf102, 2048, .inl f102)), (qf100, .inl (cf100, 48000, .inl f100)), (qf104, .inl (cf104, 8, .inl f104)), (qf118, .inl (cf118, 2100, .inl f118)), (qf119, .inl (cf119, 2100, .inl f119))] sz) U U.heap ∧ vk_R RX13 477 tS477 hS477 U)) (va_Qi (fun (r : Int32) (u : (List Value)) => match u with | (zo1) => r0 = r ∧ zo1.length = 155 ∧ (∀ j : Nat, j ≠ 117 → j ≠ 120 → zo1[j]? = zs[j]?) ∧ zo1[117]? = some (.int w117) ∧ zo1[120]? = some (.int w120)) (fun (u : (List Value)) (t : State) => match u with | (zo1) => va_P (dC, dI) vwCl [(h0, .inr (13, zo1)), (qf102, .inl (cf102, 2048, .inl f102)), (qf100, .inl (cf100, 48000, .inl f100)), (qf104, .inl (cf104, 8, .inl f104)), (qf118, .inl (cf118, 2100, .inl o118)), (qf119, .inl (cf119, 2100, .inl o119))] t.heap ∧ va_K (dC, dI) vwCl [(cf102, .int), (cf100, .int), (cf104, .int), (cf118, .int), (cf119, .int)] t ∧ va_D (va_A [(h0, .inr (13, zs)), (qf102, .inl (cf102, 2048, .inl f102)), (qf100, .inl (cf100, 48000, .inl f100)), (qf104, .inl (cf104, 8, .inl f104)), (qf118, .inl (cf118, 2100, .inl f118)), (qf119, .inl (cf119, 2100, .inl f119))] sz) [(h0, .inr (13, zo1)), (qf102, .inl (cf102, 2048, .inl f102)), (qf100, .inl (cf100, 48000, .inl f100)), (qf104, .inl (cf104, 8, .inl f104)), (qf118, .inl (cf118, 2100, .inl o118)), (qf119, .inl (cf119, 2100, .inl o119))]) (va_A [(h0, .inr (13, zs)), (qf102, .inl (cf102, 2048, .inl f102)), (qf100, .inl (cf100, 48000, .inl f100)), (qf104, .inl (cf104, 8, .inl f104)), (qf118, .inl (cf118, 2100, .inl f118)), (qf119, .inl (cf119, 2100, .inl f119))] sz)) 0 0 (va_A [(h0, .inr (13, zs)), (qf102, .inl (cf102, 2048, .inl f102)), (qf100, .inl (cf100, 48000, .inl f100)), (qf104, .inl (cf104, 8, .inl f104)), (qf118, .inl (cf118, 2100, .inl f118)), (qf119, .inl (cf119, 2100, .inl f119))] sz) := by
  refine Met.ofW (cc := cX13_typeOfClass) (maxL := 5) (ret := (some .int)) (by decide) rfl ?_
  intro p e s m args below meth c s₁ B hml hv
  obtain ⟨rfl, hsz, hP, hK, hD0, hZWS477, hZRS477⟩ := hv
  have hx := B.exec
  have hb := B.bytes
  have hr := B.returns
  have hts := atoms_spec (ws := (.code yX13_typeOfClass cX13_typeOfClass 5 (some .int) :: VS_h9)) B.pre
  replace hts := fun w (h : w ∈ VS_h9) => hts w (List.mem_cons_of_mem _ h)
  have hown : s.vm.findClass RX13 = some m.cls := findClass_of_methodNamed B.named
  have hlocks := B.notSynchronized
  subst hsz
  have hD := hD0.self (sz := s.heap.size)
  generalize hAe : va_A [(h0, .inr (13, zs)), (qf102, .inl (cf102, 2048, .inl f102)), (qf100, .inl (cf100, 48000, .inl f100)), (qf104, .inl (cf104, 8, .inl f104)), (qf118, .inl (cf118, 2100, .inl f118)), (qf119, .inl (cf119, 2100, .inl f119))] s.heap.size = A at hD hZWS477 ⊢
  have hA : ∀ q : Nat, s.heap.size ≤ q → A q := fun q h => by rw [← hAe]; exact Or.inr h
  have hP : va_P (dC, dI) vwCl [(h0, .inr (13, zs)), (qf102, .inl (cf102, 2048, .inl f102)), (qf100, .inl (cf100, 48000, .inl f100)), (qf104, .inl (cf104, 8, .inl f104)), (qf118, .inl (cf118, 2100, .inl f118)), (qf119, .inl (cf119, 2100, .inl f119))] s.heap := hP
  have hl := lv_entry ([.ref h0, .int a1, .int a2]) (n := 5) (Nat.le_of_ble_eq_true rfl)
  rw [lg_entry_eq]
  generalize (lg_sl ([.ref h0, .int a1, .int a2]) ++ List.replicate (5 - (lg_sl ([.ref h0, .int a1, .int a2])).length) Slot.unset).toArray = ls at hl ⊢
  have hl : lv_has ls 5 [(0, .ref h0), (1, .int a1), (2, .int a2)] := hl
  obtain ⟨H, hH⟩ : ∃ H : Heap, s.heap = H := ⟨_, rfl⟩
  rw [hH] at hP ⊢
  have hS : va_S A s.heap H [] := by rw [← hH]; exact va_S.rf
  obtain ⟨locs, hlo⟩ : ∃ locs : List Loc, locs = [] := ⟨_, rfl⟩
  rw [← hlo] at hS ⊢
  have hrs0 : ∀ j : Nat, j ≠ 117 → j ≠ 120 → zs[j]? = zs[j]? := fun _ _ _  => rfl
  unfold sp_vm_typeOfClass at hsp
  refine lv_aload_n hx hb dX13_typeOfClass_0 rfl (lv_at hl 0 rfl) ?_
  refine lv_iload_n hx hb dX13_typeOfClass_1 rfl (lv_at hl 1 rfl) ?_
  refine lv_iload_n hx hb dX13_typeOfClass_2 rfl (lv_at hl 2 rfl) ?_
  obtain ⟨u1_0, hu_1, hsp⟩ := ox_bind hsp
  try dsimp only at hsp
  have hPc := hP.sub (ws' := [(h0, .inr (13, zs)), (qf102, .inl (cf102, 2048, .inl f102)), (qf100, .inl (cf100, 48000, .inl f100))]) [0, 1, 2] rfl
  have hDc := hD.sub (ws' := [(h0, .inr (13, zs)), (qf102, .inl (cf102, 2048, .inl f102)), (qf100, .inl (cf100, 48000, .inl f100))]) [0, 1, 2] (by decide) rfl
  have hKc := hK.sub (tys' := [(cf102, .int), (cf100, .int)]) [0, 1] rfl
  have hFc := va_free (wc := [(h0, .inr (13, zs)), (qf102, .inl (cf102, 2048, .inl f102)), (qf100, .inl (cf100, 48000, .inl f100))]) hD hS hA [0, 1, 2] rfl
  refine va_calli (va_runV (As := [.int a1, .int a2]) (rest := []) ⟨hx, hb, hml, hown, hts⟩ (tm_textOfClass l dC dI H.size h0 zs a1 a2 qf100 qf102 cf102 f102 cf100 f100 nf u1_0 hlen hf100 hf102 hu_1) (cwV 2 hts gv_h9_55 rfl rfl rfl (by decide +kernel) ⟨Nat.le_of_ble_eq_true rfl, Nat.le_of_ble_eq_true rfl⟩) ⟨fun a U g mk q => by obtain ⟨q0, q1, qP, qK, qD⟩ := q; exact ⟨q0, q1, qP, va_K.moved (u := U) (U := U.calling g mk a) (Vm.Alike.refl U.vm) qK, qD⟩, va_recv hKc hPc (ci := 13) (q0 := 0) rfl rfl, fun U hU hW => ⟨rfl, by rw [hU], by rw [hU]; exact hPc, va_K.moved hW.alike hKc, hDc.weaken (fun _ _ _ _ => trivial)⟩⟩ rfl rfl hl.1 rfl (lv_room (Nat.le_of_ble_eq_true rfl)) dX13_typeOfClass_3 ⟨Nat.le_of_ble_eq_true rfl, Nat.le_of_ble_eq_true rfl⟩) hS (fun q _ h => hFc q h) hFc ?_
  clear hS
  intro r_1 u t H1 locs ht hvm hw hB hz1 hk1 hS
  obtain ⟨z_1, rfl⟩ : ∃ z, z = u := ⟨_, rfl⟩
  obtain ⟨hP1, hK1, hD1⟩ := hB
  rw [ht] at hP1
  have hK1 := va_K.moved hvm.symm hK1
  try dsimp only at hw
  have hPD := va_join (wr := [(qf104, .inl (cf104, 8, .inl f104)), (qf118, .inl (cf118, 2100, .inl f118)), (qf119, .inl (cf119, 2100, .inl f119))]) (w1 := [(h0, .inr (13, z_1)), (qf102, .inl (cf102, 2048, .inl f102)), (qf100, .inl (cf100, 48000, .inl f100))]) hP hD [0, 1, 2] [3, 4, 5] rfl rfl (by decide) (by decide) hk1 hFc hP1 hD1
  clear hP hD
  obtain ⟨hP, hD⟩ := hPD
  replace hK := (hK.sub (tys' := [(cf104, .int), (cf118, .int), (cf119, .int)]) [2, 3, 4] rfl).app hK1
  clear hPc hDc hKc hFc hP1 hK1 hD1 hz1 hk1 ht hvm
  generalize H1 = H at hP hS ⊢
  replace hP : va_P (dC, dI) vwCl [(qf104, .inl (cf104, 8, .inl f104)), (qf118, .inl (cf118, 2100, .inl f118)), (qf119, .inl (cf119, 2100, .inl f119)), (h0, .inr (13, z_1)), (qf102, .inl (cf102, 2048, .inl f102)), (qf100, .inl (cf100, 48000, .inl f100))] H := hP
  replace hD : va_D A [(qf104, .inl (cf104, 8, .inl f104)), (qf118, .inl (cf118, 2100, .inl f118)), (qf119, .inl (cf119, 2100, .inl f119)), (h0, .inr (13, z_1)), (qf102, .inl (cf102, 2048, .inl f102)), (qf100, .inl (cf100, 48000, .inl f100))] := hD
  replace hK : va_K (dC, dI) vwCl [(cf104, .int), (cf118, .int), (cf119, .int), (cf102, .int), (cf100, .int)] s := hK
  obtain ⟨hwa_1, hln_1, hre_1⟩ := hw
  have hfk_1_98 : z_1[98]? = some (.int v98) := (hre_1 98 ).trans (hf98)
  have hfk_1_100 : z_1[100]? = some (.ref qf100) := (hre_1 100 ).trans (hf100)
  have hfk_1_102 : z_1[102]? = some (.ref qf102) := (hre_1 102 ).trans (hf102)
  have hfk_1_104 : z_1[104]? = some (.ref qf104) := (hre_1 104 ).trans (hf104)
  have hfk_1_117 : z_1[117]? = some (.int v117) := (hre_1 117 ).trans (hf117)
  have hfk_1_118 : z_1[118]? = some (.ref qf118) := (hre_1 118 ).trans (hf118)
  have hfk_1_119 : z_1[119]? = some (.ref qf119) := (hre_1 119 ).trans (hf119)
  have hfk_1_120 : z_1[120]? = some (.int v120) := (hre_1 120 ).trans (hf120)
  have hrq_1 : ∀ j : Nat, j ≠ 117 → j ≠ 120 → z_1[j]? = zs[j]? := fun j g117 g120 => (hre_1 j ).trans (hrs0 j g117 g120)
  obtain rfl := hwa_1
  refine lv_istore_n (lv' := [(3, .int u1_0), (0, .ref h0), (1, .int a1), (2, .int a2)]) hx hb dX13_typeOfClass_6 rfl hl (by decide) rfl (fun ls hl => ?_)
  refine lv_sipush (v := 6000) hx hb dX13_typeOfClass_7 (by decide) ?_
  refine lv_iload_n hx hb dX13_typeOfClass_10 rfl (lv_at hl 2 rfl) ?_
  refine lv_imul hx hb dX13_typeOfClass_11 ?_
  refine lv_aload_n hx hb dX13_typeOfClass_12 rfl (lv_at hl 1 rfl) ?_
  refine va_get (D := (dC, dI)) (ci := 13) (v := .ref qf102) (C := RX13) (T := TX13) (N := 155) hx hb hts uV_h9_X13 hown hK hP 3 rfl rfl 102 (by decide) (hts (.fieldLink RX13 215 "ClassMillModel" "constantAt" "[I") mw_h9_267) (fun _ h9 => h9) hfk_1_102 dX13_typeOfClass_13 ?_
  refine lv_sipush (v := 256) hx hb dX13_typeOfClass_16 (by decide) ?_
  refine lv_iload_n hx hb dX13_typeOfClass_19 rfl (lv_at hl 2 rfl) ?_
  refine lv_imul hx hb dX13_typeOfClass_20 ?_
  refine lv_iload_n hx hb dX13_typeOfClass_21 rfl (lv_at hl 0 rfl) ?_
  refine lv_iadd hx hb dX13_typeOfClass_22 ?_
  obtain ⟨hi_2, hsp⟩ := ox_in hsp
  refine va_iald hx hb hK hP 4 3 rfl rfl (i := ((256 * a1) + u1_0)) hi_2 dX13_typeOfClass_23 ?_
  refine lv_iadd hx hb dX13_typeOfClass_24 ?_
  refine lv_istore (lv' := [(4, .int ((6000 * a1) + (f102 (((256 * a1) + u1_0) : Int32).toNatClampNeg))), (3, .int u1_0), (0, .ref h0), (1, .int a1), (2, .int a2)]) hx hb dX13_typeOfClass_25 hl (by decide) rfl (fun ls hl => ?_)
  refine lv_aload_n hx hb dX13_typeOfClass_27 rfl (lv_at hl 2 rfl) ?_
  refine va_get (D := (dC, dI)) (ci := 13) (v := .ref qf100) (C := RX13) (T := TX13) (N := 155) hx hb hts uV_h9_X13 hown hK hP 3 rfl rfl 100 (by decide) (hts (.fieldLink RX13 209 "ClassMillModel" "bytes" "[I") mw_h9_266) (fun _ h9 => h9) hfk_1_100 dX13_typeOfClass_28 ?_
  refine lv_iload hx hb dX13_typeOfClass_31 (lv_at hl 0 rfl) ?_
  refine lv_iconst (v := 2) hx hb dX13_typeOfClass_33 (by decide) ?_
  refine lv_iadd hx hb dX13_typeOfClass_34 ?_
  obtain ⟨hi_3, hsp⟩ := ox_in hsp
  refine va_iald hx hb hK hP 5 4 rfl rfl (i := (((6000 * a1) + (f102 (((256 * a1) + u1_0) : Int32).toNatClampNeg)) + 2)) hi_3 dX13_typeOfClass_35 ?_
  refine lv_bipush (v := 91) hx hb dX13_typeOfClass_36 (by decide) ?_
  refine lv_icmp_ne (tgt := 50) hx hb dX13_typeOfClass_38 (by decide) (fun c_4 => ?_) (fun c_4 => ?_)
  · rw [if_neg c_4] at hsp
    refine lv_iconst (v := 4) hx hb dX13_typeOfClass_50 (by decide) ?_
    refine lv_iconst (v := 2) hx hb dX13_typeOfClass_51 (by decide) ?_
    refine lv_aload_n hx hb dX13_typeOfClass_52 rfl (lv_at hl 2 rfl) ?_
    refine lv_iload hx hb dX13_typeOfClass_53 (lv_at hl 0 rfl) ?_
    refine lv_iconst (v := 2) hx hb dX13_typeOfClass_55 (by decide) ?_
    refine lv_iadd hx hb dX13_typeOfClass_56 ?_
    refine lv_aload_n hx hb dX13_typeOfClass_57 rfl (lv_at hl 2 rfl) ?_
    refine va_get (D := (dC, dI)) (ci := 13) (v := .ref qf100) (C := RX13) (T := TX13) (N := 155) hx hb hts uV_h9_X13 hown hK hP 3 rfl rfl 100 (by decide) (hts (.fieldLink RX13 209 "ClassMillModel" "bytes" "[I") mw_h9_266) (fun _ h9 => h9) hfk_1_100 dX13_typeOfClass_58 ?_
    refine lv_iload hx hb dX13_typeOfClass_61 (lv_at hl 0 rfl) ?_
    refine lv_iconst (v := 1) hx hb dX13_typeOfClass_63 (by decide) ?_
    refine lv_iadd hx hb dX13_typeOfClass_64 ?_
    obtain ⟨hi_5, hsp⟩ := ox_in hsp
    refine va_iald hx hb hK hP 5 4 rfl rfl (i := (((6000 * a1) + (f102 (((256 * a1) + u1_0) : Int32).toNatClampNeg)) + 1)) hi_5 dX13_typeOfClass_65 ?_
    obtain ⟨⟨u2_0, g902_1, g902_2, u2_3⟩, hu_2, hsp⟩ := ox_bind hsp
    try dsimp only at hsp
    have hPc := hP.sub (ws' := [(h0, .inr (13, z_1)), (qf104, .inl (cf104, 8, .inl f104)), (qf102, .inl (cf102, 2048, .inl f102)), (qf100, .inl (cf100, 48000, .inl f100)), (qf118, .inl (cf118, 2100, .inl f118)), (qf119, .inl (cf119, 2100, .inl f119))]) [3, 0, 4, 5, 1, 2] rfl
    have hDc := hD.sub (ws' := [(h0, .inr (13, z_1)), (qf104, .inl (cf104, 8, .inl f104)), (qf102, .inl (cf102, 2048, .inl f102)), (qf100, .inl (cf100, 48000, .inl f100)), (qf118, .inl (cf118, 2100, .inl f118)), (qf119, .inl (cf119, 2100, .inl f119))]) [3, 0, 4, 5, 1, 2] (by decide) rfl
    have hKc := hK.sub (tys' := [(cf104, .int), (cf102, .int), (cf100, .int), (cf118, .int), (cf119, .int)]) [0, 3, 4, 1, 2] rfl
    have hFc := va_free (wc := [(h0, .inr (13, z_1)), (qf104, .inl (cf104, 8, .inl f104)), (qf102, .inl (cf102, 2048, .inl f102)), (qf100, .inl (cf100, 48000, .inl f100)), (qf118, .inl (cf118, 2100, .inl f118)), (qf119, .inl (cf119, 2100, .inl f119))]) hD hS hA [3, 0, 4, 5, 1, 2] rfl
    refine va_calli (va_runV (As := [.int (((6000 * a1) + (f102 (((256 * a1) + u1_0) : Int32).toNatClampNeg)) + 2), .int (f100 ((((6000 * a1) + (f102 (((256 * a1) + u1_0) : Int32).toNatClampNeg)) + 1) : Int32).toNatClampNeg)]) (rest := [.int 2, .int 4]) ⟨hx, hb, hml, hown, hts⟩ (vm_nameNumber l dC dI H.size h0 z_1 ((((6000 * a1) + (f102 (((256 * a1) + u1_0) : Int32).toNatClampNeg)) + 2)) ((f100 ((((6000 * a1) + (f102 (((256 * a1) + u1_0) : Int32).toNatClampNeg)) + 1) : Int32).toNatClampNeg)) v98 qf100 qf102 qf104 v117 qf118 qf119 cf104 f104 cf102 f102 cf100 f100 cf118 f118 cf119 f119 nS477 fS477 hS477 qS477 tS477 nf u2_0 g902_1 g902_2 u2_3 hln_1 hfk_1_98 hfk_1_100 hfk_1_102 hfk_1_104 hfk_1_117 hfk_1_118 hfk_1_119 hu_2) (cwV 2 hts gv_h9_99 rfl rfl rfl (by decide +kernel) ⟨Nat.le_of_ble_eq_true rfl, Nat.le_of_ble_eq_true rfl⟩) ⟨fun a U g mk q => by obtain ⟨q0, q1, qP, qK, qD, qhZWS477, qhZRS477⟩ := q; exact ⟨q0, q1, qP, va_K.moved (u := U) (U := U.calling g mk a) (Vm.Alike.refl U.vm) qK, qD, pz_W.moved (u := U) (U := U.calling g mk a) (Vm.Alike.refl U.vm) qhZWS477, vk_R.same rfl qhZRS477⟩, va_recv hKc hPc (ci := 13) (q0 := 0) rfl rfl, fun U hU hW => ⟨rfl, by rw [hU], by rw [hU]; exact hPc, va_K.moved hW.alike hKc, hDc.weaken (fun _ _ _ _ => trivial), by rw [hU]; exact ((pz_W.moved hW.alike hZWS477).kept hS.2.1).narrow hFc, vk_R.warm hW hZRS477⟩⟩ rfl rfl hl.1 rfl (lv_room (Nat.le_of_ble_eq_true rfl)) dX13_typeOfClass_66 ⟨Nat.le_of_ble_eq_true rfl, Nat.le_of_ble_eq_true rfl⟩) hS (fun q _ h => hFc q h) hFc ?_
    clear hS
    intro r_6 u t H1 locs ht hvm hw hB hz1 hk1 hS
    obtain ⟨z_2, rfl⟩ : ∃ z, z = u := ⟨_, rfl⟩
    obtain ⟨hP1, hK1, hD1⟩ := hB
    rw [ht] at hP1
    have hK1 := va_K.moved hvm.symm hK1
    try dsimp only at hw
    have hPD := va_join (wr := []) (w1 := [(h0, .inr (13, z_2)), (qf104, .inl (cf104, 8, .inl f104)), (qf102, .inl (cf102, 2048, .inl f102)), (qf100, .inl (cf100, 48000, .inl f100)), (qf118, .inl (cf118, 2100, .inl g902_1)), (qf119, .inl (cf119, 2100, .inl g902_2))]) hP hD [3, 0, 4, 5, 1, 2] [] rfl rfl (by decide) (by decide) hk1 hFc hP1 hD1
    clear hP hD
    obtain ⟨hP, hD⟩ := hPD
    replace hK := (hK.sub (tys' := []) [] rfl).app hK1
    clear hPc hDc hKc hFc hP1 hK1 hD1 hz1 hk1 ht hvm
    generalize H1 = H at hP hS ⊢
    replace hP : va_P (dC, dI) vwCl [(h0, .inr (13, z_2)), (qf104, .inl (cf104, 8, .inl f104)), (qf102, .inl (cf102, 2048, .inl f102)), (qf100, .inl (cf100, 48000, .inl f100)), (qf118, .inl (cf118, 2100, .inl g902_1)), (qf119, .inl (cf119, 2100, .inl g902_2))] H := hP
    replace hD : va_D A [(h0, .inr (13, z_2)), (qf104, .inl (cf104, 8, .inl f104)), (qf102, .inl (cf102, 2048, .inl f102)), (qf100, .inl (cf100, 48000, .inl f100)), (qf118, .inl (cf118, 2100, .inl g902_1)), (qf119, .inl (cf119, 2100, .inl g902_2))] := hD
    replace hK : va_K (dC, dI) vwCl [(cf104, .int), (cf102, .int), (cf100, .int), (cf118, .int), (cf119, .int)] s := hK
    obtain ⟨hwa_2, hln_2, hre_2, hch_2_117⟩ := hw
    have hfk_2_98 : z_2[98]? = some (.int v98) := (hre_2 98 (by decide)).trans (hfk_1_98)
    have hfk_2_100 : z_2[100]? = some (.ref qf100) := (hre_2 100 (by decide)).trans (hfk_1_100)
    have hfk_2_102 : z_2[102]? = some (.ref qf102) := (hre_2 102 (by decide)).trans (hfk_1_102)
    have hfk_2_104 : z_2[104]? = some (.ref qf104) := (hre_2 104 (by decide)).trans (hfk_1_104)
    have hfk_2_118 : z_2[118]? = some (.ref qf118) := (hre_2 118 (by decide)).trans (hfk_1_118)
    have hfk_2_119 : z_2[119]? = some (.ref qf119) := (hre_2 119 (by decide)).trans (hfk_1_119)
    have hfk_2_120 : z_2[120]? = some (.int v120) := (hre_2 120 (by decide)).trans (hfk_1_120)
    have hrq_2 : ∀ j : Nat, j ≠ 117 → j ≠ 120 → z_2[j]? = zs[j]? := fun j g117 g120 => (hre_2 j g117).trans (hrq_1 j g117 g120)
    obtain rfl := hwa_2
    refine lv_imul hx hb dX13_typeOfClass_69 ?_
    refine lv_iadd hx hb dX13_typeOfClass_70 ?_
    have hr0 := Option.some.inj hsp
    clear hsp
    obtain ⟨hq0, hr1⟩ := Prod.mk.inj hr0
    clear hr0
    obtain ⟨hq1, hr2⟩ := Prod.mk.inj hr1
    clear hr1
    obtain ⟨hq2, hr3⟩ := Prod.mk.inj hr2
    clear hr2
    obtain ⟨hq3, hr4⟩ := Prod.mk.inj hr3
    clear hr3
    subst hq0
    subst hq1
    subst hq2
    subst hq3
    subst hr4
    have hP9 := hP.sub (ws' := [(h0, .inr (13, z_2)), (qf102, .inl (cf102, 2048, .inl f102)), (qf100, .inl (cf100, 48000, .inl f100)), (qf104, .inl (cf104, 8, .inl f104)), (qf118, .inl (cf118, 2100, .inl g902_1)), (qf119, .inl (cf119, 2100, .inl g902_2))]) [0, 2, 3, 1, 4, 5] rfl
    have hD9 := hD.sub (ws' := [(h0, .inr (13, z_2)), (qf102, .inl (cf102, 2048, .inl f102)), (qf100, .inl (cf100, 48000, .inl f100)), (qf104, .inl (cf104, 8, .inl f104)), (qf118, .inl (cf118, 2100, .inl g902_1)), (qf119, .inl (cf119, 2100, .inl g902_2))]) [0, 2, 3, 1, 4, 5] (by decide) rfl
    have hK9 := hK.sub (tys' := [(cf102, .int), (cf100, .int), (cf104, .int), (cf118, .int), (cf119, .int)]) [1, 2, 0, 3, 4] rfl
    exact W.iret hx hb hr (fun t ht hW => ⟨⟨((4 + (2 * u2_0))), (z_2), rfl, ⟨rfl, hln_2, hrq_2, hch_2_117, hfk_2_120⟩, by rw [ht]; exact hP9, va_K.moved hW.alike hK9, hD9⟩, hS.F ht⟩) hS.2.2 dX13_typeOfClass_71
  · rw [if_pos c_4] at hsp
    refine lv_aload_n hx hb dX13_typeOfClass_41 rfl (lv_at hl 2 rfl) ?_
    refine lv_iload hx hb dX13_typeOfClass_42 (lv_at hl 0 rfl) ?_
    refine lv_iconst (v := 2) hx hb dX13_typeOfClass_44 (by decide) ?_
    refine lv_iadd hx hb dX13_typeOfClass_45 ?_
    obtain ⟨⟨u3_0, g903_1, g903_2, u3_3, u3_4⟩, hu_3, hsp⟩ := ox_bind hsp
    try dsimp only at hsp
    have hPc := hP.sub (ws' := [(h0, .inr (13, z_1)), (qf100, .inl (cf100, 48000, .inl f100)), (qf104, .inl (cf104, 8, .inl f104)), (qf102, .inl (cf102, 2048, .inl f102)), (qf118, .inl (cf118, 2100, .inl f118)), (qf119, .inl (cf119, 2100, .inl f119))]) [3, 5, 0, 4, 1, 2] rfl
    have hDc := hD.sub (ws' := [(h0, .inr (13, z_1)), (qf100, .inl (cf100, 48000, .inl f100)), (qf104, .inl (cf104, 8, .inl f104)), (qf102, .inl (cf102, 2048, .inl f102)), (qf118, .inl (cf118, 2100, .inl f118)), (qf119, .inl (cf119, 2100, .inl f119))]) [3, 5, 0, 4, 1, 2] (by decide) rfl
    have hKc := hK.sub (tys' := [(cf100, .int), (cf104, .int), (cf102, .int), (cf118, .int), (cf119, .int)]) [4, 0, 3, 1, 2] rfl
    have hFc := va_free (wc := [(h0, .inr (13, z_1)), (qf100, .inl (cf100, 48000, .inl f100)), (qf104, .inl (cf104, 8, .inl f104)), (qf102, .inl (cf102, 2048, .inl f102)), (qf118, .inl (cf118, 2100, .inl f118)), (qf119, .inl (cf119, 2100, .inl f119))]) hD hS hA [3, 5, 0, 4, 1, 2] rfl
    refine va_calli (va_runV (As := [.int (((6000 * a1) + (f102 (((256 * a1) + u1_0) : Int32).toNatClampNeg)) + 2)]) (rest := []) ⟨hx, hb, hml, hown, hts⟩ (vm_typeAt l dC dI H.size h0 z_1 ((((6000 * a1) + (f102 (((256 * a1) + u1_0) : Int32).toNatClampNeg)) + 2)) v98 qf100 qf102 qf104 v117 qf118 qf119 v120 cf100 f100 cf104 f104 cf102 f102 cf118 f118 cf119 f119 nS477 fS477 hS477 qS477 tS477 nf u3_0 g903_1 g903_2 u3_3 u3_4 hln_1 hfk_1_98 hfk_1_100 hfk_1_102 hfk_1_104 hfk_1_117 hfk_1_118 hfk_1_119 hfk_1_120 hu_3) (cwV 1 hts gv_h9_100 rfl rfl rfl (by decide +kernel) ⟨Nat.le_of_ble_eq_true rfl, Nat.le_of_ble_eq_true rfl⟩) ⟨fun a U g mk q => by obtain ⟨q0, q1, qP, qK, qD, qhZWS477, qhZRS477⟩ := q; exact ⟨q0, q1, qP, va_K.moved (u := U) (U := U.calling g mk a) (Vm.Alike.refl U.vm) qK, qD, pz_W.moved (u := U) (U := U.calling g mk a) (Vm.Alike.refl U.vm) qhZWS477, vk_R.same rfl qhZRS477⟩, va_recv hKc hPc (ci := 13) (q0 := 0) rfl rfl, fun U hU hW => ⟨rfl, by rw [hU], by rw [hU]; exact hPc, va_K.moved hW.alike hKc, hDc.weaken (fun _ _ _ _ => trivial), by rw [hU]; exact ((pz_W.moved hW.alike hZWS477).kept hS.2.1).narrow hFc, vk_R.warm hW hZRS477⟩⟩ rfl rfl hl.1 rfl (lv_room (Nat.le_of_ble_eq_true rfl)) dX13_typeOfClass_46 ⟨Nat.le_of_ble_eq_true rfl, Nat.le_of_ble_eq_true rfl⟩) hS (fun q _ h => hFc q h) hFc ?_
    clear hS
    intro r_7 u t H1 locs ht hvm hw hB hz1 hk1 hS
    obtain ⟨z_3, rfl⟩ : ∃ z, z = u := ⟨_, rfl⟩
    obtain ⟨hP1, hK1, hD1⟩ := hB
    rw [ht] at hP1
    have hK1 := va_K.moved hvm.symm hK1
    try dsimp only at hw
    have hPD := va_join (wr := []) (w1 := [(h0, .inr (13, z_3)), (qf100, .inl (cf100, 48000, .inl f100)), (qf104, .inl (cf104, 8, .inl f104)), (qf102, .inl (cf102, 2048, .inl f102)), (qf118, .inl (cf118, 2100, .inl g903_1)), (qf119, .inl (cf119, 2100, .inl g903_2))]) hP hD [3, 5, 0, 4, 1, 2] [] rfl rfl (by decide) (by decide) hk1 hFc hP1 hD1
    clear hP hD
    obtain ⟨hP, hD⟩ := hPD
    replace hK := (hK.sub (tys' := []) [] rfl).app hK1
    clear hPc hDc hKc hFc hP1 hK1 hD1 hz1 hk1 ht hvm
    generalize H1 = H at hP hS ⊢
    replace hP : va_P (dC, dI) vwCl [(h0, .inr (13, z_3)), (qf100, .inl (cf100, 48000, .inl f100)), (qf104, .inl (cf104, 8, .inl f104)), (qf102, .inl (cf102, 2048, .inl f102)), (qf118, .inl (cf118, 2100, .inl g903_1)), (qf119, .inl (cf119, 2100, .inl g903_2))] H := hP
    replace hD : va_D A [(h0, .inr (13, z_3)), (qf100, .inl (cf100, 48000, .inl f100)), (qf104, .inl (cf104, 8, .inl f104)), (qf102, .inl (cf102, 2048, .inl f102)), (qf118, .inl (cf118, 2100, .inl g903_1)), (qf119, .inl (cf119, 2100, .inl g903_2))] := hD
    replace hK : va_K (dC, dI) vwCl [(cf100, .int), (cf104, .int), (cf102, .int), (cf118, .int), (cf119, .int)] s := hK
    obtain ⟨hwa_3, hln_3, hre_3, hch_3_117, hch_3_120⟩ := hw
    have hfk_3_98 : z_3[98]? = some (.int v98) := (hre_3 98 (by decide) (by decide)).trans (hfk_1_98)
    have hfk_3_100 : z_3[100]? = some (.ref qf100) := (hre_3 100 (by decide) (by decide)).trans (hfk_1_100)
    have hfk_3_102 : z_3[102]? = some (.ref qf102) := (hre_3 102 (by decide) (by decide)).trans (hfk_1_102)
    have hfk_3_104 : z_3[104]? = some (.ref qf104) := (hre_3 104 (by decide) (by decide)).trans (hfk_1_104)
    have hfk_3_118 : z_3[118]? = some (.ref qf118) := (hre_3 118 (by decide) (by decide)).trans (hfk_1_118)
    have hfk_3_119 : z_3[119]? = some (.ref qf119) := (hre_3 119 (by decide) (by decide)).trans (hfk_1_119)
    have hrq_3 : ∀ j : Nat, j ≠ 117 → j ≠ 120 → z_3[j]? = zs[j]? := fun j g117 g120 => (hre_3 j g117 g120).trans (hrq_1 j g117 g120)
    obtain rfl := hwa_3
    have hr0 := Option.some.inj hsp
    clear hsp
    obtain ⟨hq0, hr1⟩ := Prod.mk.inj hr0
    clear hr0
    obtain ⟨hq1, hr2⟩ := Prod.mk.inj hr1
    clear hr1
    obtain ⟨hq2, hr3⟩ := Prod.mk.inj hr2
    clear hr2
    obtain ⟨hq3, hr4⟩ := Prod.mk.inj hr3
    clear hr3
    subst hq0
    subst hq1
    subst hq2
    subst hq3
    subst hr4
    have hP9 := hP.sub (ws' := [(h0, .inr (13, z_3)), (qf102, .inl (cf102, 2048, .inl f102)), (qf100, .inl (cf100, 48000, .inl f100)), (qf104, .inl (cf104, 8, .inl f104)), (qf118, .inl (cf118, 2100, .inl g903_1)), (qf119, .inl (cf119, 2100, .inl g903_2))]) [0, 3, 1, 2, 4, 5] rfl
    have hD9 := hD.sub (ws' := [(h0, .inr (13, z_3)), (qf102, .inl (cf102, 2048, .inl f102)), (qf100, .inl (cf100, 48000, .inl f100)), (qf104, .inl (cf104, 8, .inl f104)), (qf118, .inl (cf118, 2100, .inl g903_1)), (qf119, .inl (cf119, 2100, .inl g903_2))]) [0, 3, 1, 2, 4, 5] (by decide) rfl
    have hK9 := hK.sub (tys' := [(cf102, .int), (cf100, .int), (cf104, .int), (cf118, .int), (cf119, .int)]) [2, 0, 1, 3, 4] rfl
    exact W.iret hx hb hr (fun t ht hW => ⟨⟨(u3_0), (z_3), rfl, ⟨rfl, hln_3, hrq_3, hch_3_117, hch_3_120⟩, by rw [ht]; exact hP9, va_K.moved hW.alike hK9, hD9⟩, hS.F ht⟩) hS.2.2 dX13_typeOfClass_49
def sp_vm_kindType (nf : Nat) (a1 : Int32) (a2 : Int32) (v98 : Int32) (v117 : Int32) (f102 : Nat → Int32) (f100 : Nat → Int32) (f104 : Nat → Int32) (f118 : Nat → Int32) (f119 : Nat → Int32) (nS477 : Nat) (fS477 : Nat → Int32) : Option (Int32 × (Nat → Int32) × (Nat → Int32) × Int32 × Int32) := (if ((256 * a1) + a2) < 0 then none else if 2048 ≤ (((256 * a1) + a2) : Int32).toNatClampNeg then none else ((sp_vm_typeAt nf (((6000 * a1) + (f102 (((256 * a1) + a2) : Int32).toNatClampNeg)) + 2) v98 v117 f100 f104 f102 f118 f119 nS477 fS477).bind (fun p1 => (some (p1.1, p1.2.1, p1.2.2.1, p1.2.2.2.1, p1.2.2.2.2)))))
set_option maxHeartbeats 4000000 in
set_option maxRecDepth 100000 in
/-- ClassMillModel.kindType -/
theorem vm_kindType (l : Launch) (dC : Nat → ClassId) (dI : Nat → Nat → Nat) (sz : Nat) (h0 : Nat) (zs : (List Value)) (a1 : Int32) (a2 : Int32) (v98 : Int32) (qf100 : Nat) (qf102 : Nat) (qf104 : Nat) (v117 : Int32) (qf118 : Nat) (qf119 : Nat) (v120 : Int32) (cf102 : ClassId) (f102 : (Nat → Int32)) (cf100 : ClassId) (f100 : (Nat → Int32)) (cf104 : ClassId) (f104 : (Nat → Int32)) (cf118 : ClassId) (f118 : (Nat → Int32)) (cf119 : ClassId) (f119 : (Nat → Int32)) (nS477 : Nat) (fS477 : (Nat → Int32)) (hS477 : Nat) (qS477 : Nat) (tS477 : String) (nf : Nat) (r0 : Int32) (o118 : (Nat → Int32)) (o119 : (Nat → Int32)) (w117 : Int32) (w120 : Int32) (hlen : zs.length = 155) (hf98 : zs[98]? = some (.int v98)) (hf100 : zs[100]? = some (.ref qf100)) (hf102 : zs[102]? = some (.ref qf102)) (hf104 : zs[104]? = some (.ref qf104)) (hf117 : zs[117]? = some (.int v117)) (hf118 : zs[118]? = some (.ref qf118)) (hf119 : zs[119]? = some (.ref qf119)) (hf120 : zs[120]? = some (.int v120)) (hsp : sp_vm_kindType nf a1 a2 v98 v117 f102 f100 f104 f118 f119 nS477 fS477 = some (r0, o118, o119, w117, w120)) : Met l yX13_kindType (.code yX13_kindType cX13_kindType 3 (some .int) :: VS_h9) ({ frames := 8, cells := 0, slots := 0, locals := 187 }) (va_Pc [.ref h0, .int a1, .int a2] (fun U => U.heap.size = sz ∧ va_P (dC, dI) vwCl [(h0, .inr (13, zs)), (qf102, .inl (cf102, 2048, .inl f102)), (qf100, .inl (cf100, 48000, .inl f100)), (qf104, .inl (cf104, 8, .inl f104)), (qf118, .inl (cf118, 2100, .inl f118)), (qf119, .inl (cf119, 2100, .inl f119))] U.heap ∧ va_K (dC, dI) vwCl [(cf102, .int), (cf100, .int), (cf104, .int), (cf118, .int), (cf119, .int)] U ∧ va_D (fun _ => True) [(h0, .inr (13, zs)), (qf102, .inl (cf102, 2048, .inl f102)), (qf100, .inl (cf100, 48000, .inl f100)), (qf104, .inl (cf104, 8, .inl f104)), (qf118, .inl (cf118, 2100, .inl f118)), (qf119, .inl (cf119, 2100, .inl f119))] ∧ pz_W nS477 fS477 hS477 qS477 (va_A [(h0, .inr (13, zs)), (qf102, .inl (cf102, 2048, .inl f102)), (qf100, .inl (cf100, 48000, .inl f100)), (qf104, .inl (cf104, 8, .inl f104)), (qf118, .inl (cf118, 2100, .inl f118)), (qf119, .inl (cf119, 2100, .inl f119))] sz) U U.heap ∧ vk_R RX13 477 tS477 hS477 U)) (va_Qi (fun (r : Int32) (u : (List Value)) => match u with | (zo1) => r0 = r ∧ zo1.length = 155 ∧ (∀ j : Nat, j ≠ 117 → j ≠ 120 → zo1[j]? = zs[j]?) ∧ zo1[117]? = some (.int w117) ∧ zo1[120]? = some (.int w120)) (fun (u : (List Value)) (t : State) => match u with | (zo1) => va_P (dC, dI) vwCl [(h0, .inr (13, zo1)), (qf102, .inl (cf102, 2048, .inl f102)), (qf100, .inl (cf100, 48000, .inl f100)), (qf104, .inl (cf104, 8, .inl f104)), (qf118, .inl (cf118, 2100, .inl o118)), (qf119, .inl (cf119, 2100, .inl o119))] t.heap ∧ va_K (dC, dI) vwCl [(cf102, .int), (cf100, .int), (cf104, .int), (cf118, .int), (cf119, .int)] t ∧ va_D (va_A [(h0, .inr (13, zs)), (qf102, .inl (cf102, 2048, .inl f102)), (qf100, .inl (cf100, 48000, .inl f100)), (qf104, .inl (cf104, 8, .inl f104)), (qf118, .inl (cf118, 2100, .inl f118)), (qf119, .inl (cf119, 2100, .inl f119))] sz) [(h0, .inr (13, zo1)), (qf102, .inl (cf102, 2048, .inl f102)), (qf100, .inl (cf100, 48000, .inl f100)), (qf104, .inl (cf104, 8, .inl f104)), (qf118, .inl (cf118, 2100, .inl o118)), (qf119, .inl (cf119, 2100, .inl o119))]) (va_A [(h0, .inr (13, zs)), (qf102, .inl (cf102, 2048, .inl f102)), (qf100, .inl (cf100, 48000, .inl f100)), (qf104, .inl (cf104, 8, .inl f104)), (qf118, .inl (cf118, 2100, .inl f118)), (qf119, .inl (cf119, 2100, .inl f119))] sz)) 0 0 (va_A [(h0, .inr (13, zs)), (qf102, .inl (cf102, 2048, .inl f102)), (qf100, .inl (cf100, 48000, .inl f100)), (qf104, .inl (cf104, 8, .inl f104)), (qf118, .inl (cf118, 2100, .inl f118)), (qf119, .inl (cf119, 2100, .inl f119))] sz) := by
  refine Met.ofW (cc := cX13_kindType) (maxL := 3) (ret := (some .int)) (by decide) rfl ?_
  intro p e s m args below meth c s₁ B hml hv
  obtain ⟨rfl, hsz, hP, hK, hD0, hZWS477, hZRS477⟩ := hv
  have hx := B.exec
  have hb := B.bytes
  have hr := B.returns
  have hts := atoms_spec (ws := (.code yX13_kindType cX13_kindType 3 (some .int) :: VS_h9)) B.pre
  replace hts := fun w (h : w ∈ VS_h9) => hts w (List.mem_cons_of_mem _ h)
  have hown : s.vm.findClass RX13 = some m.cls := findClass_of_methodNamed B.named
  have hlocks := B.notSynchronized
  subst hsz
  have hD := hD0.self (sz := s.heap.size)
  generalize hAe : va_A [(h0, .inr (13, zs)), (qf102, .inl (cf102, 2048, .inl f102)), (qf100, .inl (cf100, 48000, .inl f100)), (qf104, .inl (cf104, 8, .inl f104)), (qf118, .inl (cf118, 2100, .inl f118)), (qf119, .inl (cf119, 2100, .inl f119))] s.heap.size = A at hD hZWS477 ⊢
  have hA : ∀ q : Nat, s.heap.size ≤ q → A q := fun q h => by rw [← hAe]; exact Or.inr h
  have hP : va_P (dC, dI) vwCl [(h0, .inr (13, zs)), (qf102, .inl (cf102, 2048, .inl f102)), (qf100, .inl (cf100, 48000, .inl f100)), (qf104, .inl (cf104, 8, .inl f104)), (qf118, .inl (cf118, 2100, .inl f118)), (qf119, .inl (cf119, 2100, .inl f119))] s.heap := hP
  have hl := lv_entry ([.ref h0, .int a1, .int a2]) (n := 3) (Nat.le_of_ble_eq_true rfl)
  rw [lg_entry_eq]
  generalize (lg_sl ([.ref h0, .int a1, .int a2]) ++ List.replicate (3 - (lg_sl ([.ref h0, .int a1, .int a2])).length) Slot.unset).toArray = ls at hl ⊢
  have hl : lv_has ls 3 [(0, .ref h0), (1, .int a1), (2, .int a2)] := hl
  obtain ⟨H, hH⟩ : ∃ H : Heap, s.heap = H := ⟨_, rfl⟩
  rw [hH] at hP ⊢
  have hS : va_S A s.heap H [] := by rw [← hH]; exact va_S.rf
  obtain ⟨locs, hlo⟩ : ∃ locs : List Loc, locs = [] := ⟨_, rfl⟩
  rw [← hlo] at hS ⊢
  have hrs0 : ∀ j : Nat, j ≠ 117 → j ≠ 120 → zs[j]? = zs[j]? := fun _ _ _  => rfl
  unfold sp_vm_kindType at hsp
  refine lv_aload_n hx hb dX13_kindType_0 rfl (lv_at hl 0 rfl) ?_
  refine lv_sipush (v := 6000) hx hb dX13_kindType_1 (by decide) ?_
  refine lv_iload_n hx hb dX13_kindType_4 rfl (lv_at hl 1 rfl) ?_
  refine lv_imul hx hb dX13_kindType_5 ?_
  refine lv_aload_n hx hb dX13_kindType_6 rfl (lv_at hl 0 rfl) ?_
  refine va_get (D := (dC, dI)) (ci := 13) (v := .ref qf102) (C := RX13) (T := TX13) (N := 155) hx hb hts uV_h9_X13 hown hK hP 0 rfl rfl 102 (by decide) (hts (.fieldLink RX13 215 "ClassMillModel" "constantAt" "[I") mw_h9_267) (fun _ h9 => h9) hf102 dX13_kindType_7 ?_
  refine lv_sipush (v := 256) hx hb dX13_kindType_10 (by decide) ?_
  refine lv_iload_n hx hb dX13_kindType_13 rfl (lv_at hl 1 rfl) ?_
  refine lv_imul hx hb dX13_kindType_14 ?_
  refine lv_iload_n hx hb dX13_kindType_15 rfl (lv_at hl 2 rfl) ?_
  refine lv_iadd hx hb dX13_kindType_16 ?_
  obtain ⟨hi_1, hsp⟩ := ox_in hsp
  refine va_iald hx hb hK hP 1 0 rfl rfl (i := ((256 * a1) + a2)) hi_1 dX13_kindType_17 ?_
  refine lv_iadd hx hb dX13_kindType_18 ?_
  refine lv_iconst (v := 2) hx hb dX13_kindType_19 (by decide) ?_
  refine lv_iadd hx hb dX13_kindType_20 ?_
  obtain ⟨⟨u1_0, g901_1, g901_2, u1_3, u1_4⟩, hu_1, hsp⟩ := ox_bind hsp
  try dsimp only at hsp
  have hPc := hP.sub (ws' := [(h0, .inr (13, zs)), (qf100, .inl (cf100, 48000, .inl f100)), (qf104, .inl (cf104, 8, .inl f104)), (qf102, .inl (cf102, 2048, .inl f102)), (qf118, .inl (cf118, 2100, .inl f118)), (qf119, .inl (cf119, 2100, .inl f119))]) [0, 2, 3, 1, 4, 5] rfl
  have hDc := hD.sub (ws' := [(h0, .inr (13, zs)), (qf100, .inl (cf100, 48000, .inl f100)), (qf104, .inl (cf104, 8, .inl f104)), (qf102, .inl (cf102, 2048, .inl f102)), (qf118, .inl (cf118, 2100, .inl f118)), (qf119, .inl (cf119, 2100, .inl f119))]) [0, 2, 3, 1, 4, 5] (by decide) rfl
  have hKc := hK.sub (tys' := [(cf100, .int), (cf104, .int), (cf102, .int), (cf118, .int), (cf119, .int)]) [1, 2, 0, 3, 4] rfl
  have hFc := va_free (wc := [(h0, .inr (13, zs)), (qf100, .inl (cf100, 48000, .inl f100)), (qf104, .inl (cf104, 8, .inl f104)), (qf102, .inl (cf102, 2048, .inl f102)), (qf118, .inl (cf118, 2100, .inl f118)), (qf119, .inl (cf119, 2100, .inl f119))]) hD hS hA [0, 2, 3, 1, 4, 5] rfl
  refine va_calli (va_runV (As := [.int (((6000 * a1) + (f102 (((256 * a1) + a2) : Int32).toNatClampNeg)) + 2)]) (rest := []) ⟨hx, hb, hml, hown, hts⟩ (vm_typeAt l dC dI H.size h0 zs ((((6000 * a1) + (f102 (((256 * a1) + a2) : Int32).toNatClampNeg)) + 2)) v98 qf100 qf102 qf104 v117 qf118 qf119 v120 cf100 f100 cf104 f104 cf102 f102 cf118 f118 cf119 f119 nS477 fS477 hS477 qS477 tS477 nf u1_0 g901_1 g901_2 u1_3 u1_4 hlen hf98 hf100 hf102 hf104 hf117 hf118 hf119 hf120 hu_1) (cwV 1 hts gv_h9_100 rfl rfl rfl (by decide +kernel) ⟨Nat.le_of_ble_eq_true rfl, Nat.le_of_ble_eq_true rfl⟩) ⟨fun a U g mk q => by obtain ⟨q0, q1, qP, qK, qD, qhZWS477, qhZRS477⟩ := q; exact ⟨q0, q1, qP, va_K.moved (u := U) (U := U.calling g mk a) (Vm.Alike.refl U.vm) qK, qD, pz_W.moved (u := U) (U := U.calling g mk a) (Vm.Alike.refl U.vm) qhZWS477, vk_R.same rfl qhZRS477⟩, va_recv hKc hPc (ci := 13) (q0 := 0) rfl rfl, fun U hU hW => ⟨rfl, by rw [hU], by rw [hU]; exact hPc, va_K.moved hW.alike hKc, hDc.weaken (fun _ _ _ _ => trivial), by rw [hU]; exact ((pz_W.moved hW.alike hZWS477).kept hS.2.1).narrow hFc, vk_R.warm hW hZRS477⟩⟩ rfl rfl hl.1 rfl (lv_room (Nat.le_of_ble_eq_true rfl)) dX13_kindType_21 ⟨Nat.le_of_ble_eq_true rfl, Nat.le_of_ble_eq_true rfl⟩) hS (fun q _ h => hFc q h) hFc ?_
  clear hS
  intro r_2 u t H1 locs ht hvm hw hB hz1 hk1 hS
  obtain ⟨z_1, rfl⟩ : ∃ z, z = u := ⟨_, rfl⟩
  obtain ⟨hP1, hK1, hD1⟩ := hB
  rw [ht] at hP1
  have hK1 := va_K.moved hvm.symm hK1
  try dsimp only at hw
  have hPD := va_join (wr := []) (w1 := [(h0, .inr (13, z_1)), (qf100, .inl (cf100, 48000, .inl f100)), (qf104, .inl (cf104, 8, .inl f104)), (qf102, .inl (cf102, 2048, .inl f102)), (qf118, .inl (cf118, 2100, .inl g901_1)), (qf119, .inl (cf119, 2100, .inl g901_2))]) hP hD [0, 2, 3, 1, 4, 5] [] rfl rfl (by decide) (by decide) hk1 hFc hP1 hD1
  clear hP hD
  obtain ⟨hP, hD⟩ := hPD
  replace hK := (hK.sub (tys' := []) [] rfl).app hK1
  clear hPc hDc hKc hFc hP1 hK1 hD1 hz1 hk1 ht hvm
  generalize H1 = H at hP hS ⊢
  replace hP : va_P (dC, dI) vwCl [(h0, .inr (13, z_1)), (qf100, .inl (cf100, 48000, .inl f100)), (qf104, .inl (cf104, 8, .inl f104)), (qf102, .inl (cf102, 2048, .inl f102)), (qf118, .inl (cf118, 2100, .inl g901_1)), (qf119, .inl (cf119, 2100, .inl g901_2))] H := hP
  replace hD : va_D A [(h0, .inr (13, z_1)), (qf100, .inl (cf100, 48000, .inl f100)), (qf104, .inl (cf104, 8, .inl f104)), (qf102, .inl (cf102, 2048, .inl f102)), (qf118, .inl (cf118, 2100, .inl g901_1)), (qf119, .inl (cf119, 2100, .inl g901_2))] := hD
  replace hK : va_K (dC, dI) vwCl [(cf100, .int), (cf104, .int), (cf102, .int), (cf118, .int), (cf119, .int)] s := hK
  obtain ⟨hwa_1, hln_1, hre_1, hch_1_117, hch_1_120⟩ := hw
  have hfk_1_98 : z_1[98]? = some (.int v98) := (hre_1 98 (by decide) (by decide)).trans (hf98)
  have hfk_1_100 : z_1[100]? = some (.ref qf100) := (hre_1 100 (by decide) (by decide)).trans (hf100)
  have hfk_1_102 : z_1[102]? = some (.ref qf102) := (hre_1 102 (by decide) (by decide)).trans (hf102)
  have hfk_1_104 : z_1[104]? = some (.ref qf104) := (hre_1 104 (by decide) (by decide)).trans (hf104)
  have hfk_1_118 : z_1[118]? = some (.ref qf118) := (hre_1 118 (by decide) (by decide)).trans (hf118)
  have hfk_1_119 : z_1[119]? = some (.ref qf119) := (hre_1 119 (by decide) (by decide)).trans (hf119)
  have hrq_1 : ∀ j : Nat, j ≠ 117 → j ≠ 120 → z_1[j]? = zs[j]? := fun j g117 g120 => (hre_1 j g117 g120).trans (hrs0 j g117 g120)
  obtain rfl := hwa_1
  have hr0 := Option.some.inj hsp
  clear hsp
  obtain ⟨hq0, hr1⟩ := Prod.mk.inj hr0
  clear hr0
  obtain ⟨hq1, hr2⟩ := Prod.mk.inj hr1
  clear hr1
  obtain ⟨hq2, hr3⟩ := Prod.mk.inj hr2
  clear hr2
  obtain ⟨hq3, hr4⟩ := Prod.mk.inj hr3
  clear hr3
  subst hq0
  subst hq1
  subst hq2
  subst hq3
  subst hr4
  have hP9 := hP.sub (ws' := [(h0, .inr (13, z_1)), (qf102, .inl (cf102, 2048, .inl f102)), (qf100, .inl (cf100, 48000, .inl f100)), (qf104, .inl (cf104, 8, .inl f104)), (qf118, .inl (cf118, 2100, .inl g901_1)), (qf119, .inl (cf119, 2100, .inl g901_2))]) [0, 3, 1, 2, 4, 5] rfl
  have hD9 := hD.sub (ws' := [(h0, .inr (13, z_1)), (qf102, .inl (cf102, 2048, .inl f102)), (qf100, .inl (cf100, 48000, .inl f100)), (qf104, .inl (cf104, 8, .inl f104)), (qf118, .inl (cf118, 2100, .inl g901_1)), (qf119, .inl (cf119, 2100, .inl g901_2))]) [0, 3, 1, 2, 4, 5] (by decide) rfl
  have hK9 := hK.sub (tys' := [(cf102, .int), (cf100, .int), (cf104, .int), (cf118, .int), (cf119, .int)]) [2, 0, 1, 3, 4] rfl
  exact W.iret hx hb hr (fun t ht hW => ⟨⟨(u1_0), (z_1), rfl, ⟨rfl, hln_1, hrq_1, hch_1_117, hch_1_120⟩, by rw [ht]; exact hP9, va_K.moved hW.alike hK9, hD9⟩, hS.F ht⟩) hS.2.2 dX13_kindType_24
def jn_vm_goes_53 (nf : Nat) (a1 : Int32) (a2 : Int32) (v98 : Int32) (f105 : Nat → Int32) (f102 : Nat → Int32) (f100 : Nat → Int32) (f104 : Nat → Int32) (nS477 : Nat) (fS477 : Nat → Int32)  (l1_53 : Int32) (l2_53 : Int32) : Option (Int32) := (if l1_53 < 4 then (some 0) else (if l2_53 < 4 then (some 0) else (if (l1_53 - l1_53 / 2 * 2) = (l2_53 - l2_53 / 2 * 2) then (if 16 ≤ ((l1_53 - 4) / 2) then (some 0) else (if 16 ≤ ((l2_53 - 4) / 2) then (some 0) else ((sp_vm_isUnder nf ((l1_53 - 4) / 2) ((l2_53 - 4) / 2) v98 f105 f102 f100 f104 nS477 fS477).bind (fun p1 => (if p1 = 0 then (some 0) else (some 1)))))) else (some 0))))
def sp_vm_goes (nf : Nat) (a1 : Int32) (a2 : Int32) (v98 : Int32) (f105 : Nat → Int32) (f102 : Nat → Int32) (f100 : Nat → Int32) (f104 : Nat → Int32) (nS477 : Nat) (fS477 : Nat → Int32) : Option (Int32) := (if a2 = 0 then (some 1) else (if a1 = a2 then (some 1) else (if a1 = 0 then (some 0) else (if a1 = 1 then (some 0) else (if a2 = 1 then (some 0) else (if a2 = 2 then (some 0) else (if a1 = 2 then (some 1) else ((sp_tm_isRow nf a1).bind (fun p1 => (if p1 = 0 then (jn_vm_goes_53 nf a1 a2 v98 f105 f102 f100 f104 nS477 fS477  a1 a2) else (if a2 = 4 then (some 1) else (jn_vm_goes_53 nf a1 a2 v98 f105 f102 f100 f104 nS477 fS477  a1 a2))))))))))))
set_option maxHeartbeats 4000000 in
set_option maxRecDepth 100000 in
/-- ClassMillModel.goes -/
theorem vm_goes (l : Launch) (dC : Nat → ClassId) (dI : Nat → Nat → Nat) (sz : Nat) (h0 : Nat) (zs : (List Value)) (a1 : Int32) (a2 : Int32) (v98 : Int32) (qf100 : Nat) (qf102 : Nat) (qf104 : Nat) (qf105 : Nat) (cf105 : ClassId) (f105 : (Nat → Int32)) (cf102 : ClassId) (f102 : (Nat → Int32)) (cf100 : ClassId) (f100 : (Nat → Int32)) (cf104 : ClassId) (f104 : (Nat → Int32)) (nS477 : Nat) (fS477 : (Nat → Int32)) (hS477 : Nat) (qS477 : Nat) (tS477 : String) (nf : Nat) (r0 : Int32) (hlen : zs.length = 155) (hf98 : zs[98]? = some (.int v98)) (hf100 : zs[100]? = some (.ref qf100)) (hf102 : zs[102]? = some (.ref qf102)) (hf104 : zs[104]? = some (.ref qf104)) (hf105 : zs[105]? = some (.ref qf105)) (hsp : sp_vm_goes nf a1 a2 v98 f105 f102 f100 f104 nS477 fS477 = some r0) : Met l yX13_goes (.code yX13_goes cX13_goes 5 (some .boolean) :: VS_h9) ({ frames := 9, cells := 0, slots := 0, locals := 205 }) (va_Pc [.ref h0, .int a1, .int a2] (fun U => U.heap.size = sz ∧ va_P (dC, dI) vwCl [(h0, .inr (13, zs)), (qf105, .inl (cf105, 8, .inl f105)), (qf102, .inl (cf102, 2048, .inl f102)), (qf100, .inl (cf100, 48000, .inl f100)), (qf104, .inl (cf104, 8, .inl f104))] U.heap ∧ va_K (dC, dI) vwCl [(cf105, .int), (cf102, .int), (cf100, .int), (cf104, .int)] U ∧ va_D (fun _ => True) [(h0, .inr (13, zs)), (qf105, .inl (cf105, 8, .inl f105)), (qf102, .inl (cf102, 2048, .inl f102)), (qf100, .inl (cf100, 48000, .inl f100)), (qf104, .inl (cf104, 8, .inl f104))] ∧ pz_W nS477 fS477 hS477 qS477 (va_A [(h0, .inr (13, zs)), (qf105, .inl (cf105, 8, .inl f105)), (qf102, .inl (cf102, 2048, .inl f102)), (qf100, .inl (cf100, 48000, .inl f100)), (qf104, .inl (cf104, 8, .inl f104))] sz) U U.heap ∧ vk_R RX13 477 tS477 hS477 U)) (va_Qi (fun (r : Int32) (u : (List Value)) => match u with | (zo1) => (r0 = r ∧ (r0 = 0 ∨ r0 = 1)) ∧ zo1.length = 155 ∧ (∀ j : Nat, zo1[j]? = zs[j]?)) (fun (u : (List Value)) (t : State) => match u with | (zo1) => va_P (dC, dI) vwCl [(h0, .inr (13, zo1)), (qf105, .inl (cf105, 8, .inl f105)), (qf102, .inl (cf102, 2048, .inl f102)), (qf100, .inl (cf100, 48000, .inl f100)), (qf104, .inl (cf104, 8, .inl f104))] t.heap ∧ va_K (dC, dI) vwCl [(cf105, .int), (cf102, .int), (cf100, .int), (cf104, .int)] t ∧ va_D (va_A [(h0, .inr (13, zs)), (qf105, .inl (cf105, 8, .inl f105)), (qf102, .inl (cf102, 2048, .inl f102)), (qf100, .inl (cf100, 48000, .inl f100)), (qf104, .inl (cf104, 8, .inl f104))] sz) [(h0, .inr (13, zo1)), (qf105, .inl (cf105, 8, .inl f105)), (qf102, .inl (cf102, 2048, .inl f102)), (qf100, .inl (cf100, 48000, .inl f100)), (qf104, .inl (cf104, 8, .inl f104))]) (va_A [(h0, .inr (13, zs)), (qf105, .inl (cf105, 8, .inl f105)), (qf102, .inl (cf102, 2048, .inl f102)), (qf100, .inl (cf100, 48000, .inl f100)), (qf104, .inl (cf104, 8, .inl f104))] sz)) 0 0 (va_A [(h0, .inr (13, zs)), (qf105, .inl (cf105, 8, .inl f105)), (qf102, .inl (cf102, 2048, .inl f102)), (qf100, .inl (cf100, 48000, .inl f100)), (qf104, .inl (cf104, 8, .inl f104))] sz) := by
  refine Met.ofW (cc := cX13_goes) (maxL := 5) (ret := (some .boolean)) (by decide) rfl ?_
  intro p e s m args below meth c s₁ B hml hv
  obtain ⟨rfl, hsz, hP, hK, hD0, hZWS477, hZRS477⟩ := hv
  have hx := B.exec
  have hb := B.bytes
  have hr := B.returns
  have hts := atoms_spec (ws := (.code yX13_goes cX13_goes 5 (some .boolean) :: VS_h9)) B.pre
  replace hts := fun w (h : w ∈ VS_h9) => hts w (List.mem_cons_of_mem _ h)
  have hown : s.vm.findClass RX13 = some m.cls := findClass_of_methodNamed B.named
  have hlocks := B.notSynchronized
  subst hsz
  have hD := hD0.self (sz := s.heap.size)
  generalize hAe : va_A [(h0, .inr (13, zs)), (qf105, .inl (cf105, 8, .inl f105)), (qf102, .inl (cf102, 2048, .inl f102)), (qf100, .inl (cf100, 48000, .inl f100)), (qf104, .inl (cf104, 8, .inl f104))] s.heap.size = A at hD hZWS477 ⊢
  have hA : ∀ q : Nat, s.heap.size ≤ q → A q := fun q h => by rw [← hAe]; exact Or.inr h
  have hP : va_P (dC, dI) vwCl [(h0, .inr (13, zs)), (qf105, .inl (cf105, 8, .inl f105)), (qf102, .inl (cf102, 2048, .inl f102)), (qf100, .inl (cf100, 48000, .inl f100)), (qf104, .inl (cf104, 8, .inl f104))] s.heap := hP
  have hl := lv_entry ([.ref h0, .int a1, .int a2]) (n := 5) (Nat.le_of_ble_eq_true rfl)
  rw [lg_entry_eq]
  generalize (lg_sl ([.ref h0, .int a1, .int a2]) ++ List.replicate (5 - (lg_sl ([.ref h0, .int a1, .int a2])).length) Slot.unset).toArray = ls at hl ⊢
  have hl : lv_has ls 5 [(0, .ref h0), (1, .int a1), (2, .int a2)] := hl
  obtain ⟨H, hH⟩ : ∃ H : Heap, s.heap = H := ⟨_, rfl⟩
  rw [hH] at hP ⊢
  have hS : va_S A s.heap H [] := by rw [← hH]; exact va_S.rf
  obtain ⟨locs, hlo⟩ : ∃ locs : List Loc, locs = [] := ⟨_, rfl⟩
  rw [← hlo] at hS ⊢
  have hrs0 : ∀ j : Nat, zs[j]? = zs[j]? := fun _  => rfl
  unfold sp_vm_goes at hsp
  refine jn_use (α := Heap × List Loc × Array Slot × List Value × Int32 × Int32) (fun x9 => x9.1) (fun x9 => x9.2.1) (fun x9 => F0 m 53 x9.2.2.1 []) (fun x9 => match x9 with | (H, locs, ls, z53, l1_53, l2_53) => lv_has ls 5 [(0, .ref h0), (1, .int l1_53), (2, .int l2_53)] ∧ va_S A s.heap H locs ∧ va_D A [(h0, .inr (13, z53)), (qf105, .inl (cf105, 8, .inl f105)), (qf102, .inl (cf102, 2048, .inl f102)), (qf100, .inl (cf100, 48000, .inl f100)), (qf104, .inl (cf104, 8, .inl f104))] ∧ va_P (dC, dI) vwCl [(h0, .inr (13, z53)), (qf105, .inl (cf105, 8, .inl f105)), (qf102, .inl (cf102, 2048, .inl f102)), (qf100, .inl (cf100, 48000, .inl f100)), (qf104, .inl (cf104, 8, .inl f104))] H ∧ z53[98]? = some (.int v98) ∧ z53[100]? = some (.ref qf100) ∧ z53[102]? = some (.ref qf102) ∧ z53[104]? = some (.ref qf104) ∧ z53[105]? = some (.ref qf105) ∧ z53.length = 155 ∧ (∀ j : Nat, z53[j]? = zs[j]?) ∧ jn_vm_goes_53 nf a1 a2 v98 f105 f102 f100 f104 nS477 fS477 l1_53 l2_53 = some r0) ?_ ?_
  · intro x9 hJ9
    obtain ⟨H, locs, ls, z53, l1_53, l2_53⟩ := x9
    obtain ⟨hl, hS, hD, hP, hfh_53_98, hfh_53_100, hfh_53_102, hfh_53_104, hfh_53_105, hlh_53, hrh_53, hsp⟩ := hJ9
    replace hl : lv_has ls 5 [(0, .ref h0), (1, .int l1_53), (2, .int l2_53)] := hl
    replace hS : va_S A s.heap H locs := hS
    replace hD : va_D A [(h0, .inr (13, z53)), (qf105, .inl (cf105, 8, .inl f105)), (qf102, .inl (cf102, 2048, .inl f102)), (qf100, .inl (cf100, 48000, .inl f100)), (qf104, .inl (cf104, 8, .inl f104))] := hD
    replace hP : va_P (dC, dI) vwCl [(h0, .inr (13, z53)), (qf105, .inl (cf105, 8, .inl f105)), (qf102, .inl (cf102, 2048, .inl f102)), (qf100, .inl (cf100, 48000, .inl f100)), (qf104, .inl (cf104, 8, .inl f104))] H := hP
    replace hsp : jn_vm_goes_53 nf a1 a2 v98 f105 f102 f100 f104 nS477 fS477 l1_53 l2_53 = some r0 := hsp
    show W _ _ _ _ _ _ _ _ _ _ H locs _ _ _ (F0 m 53 ls [])
    unfold jn_vm_goes_53 at hsp
    try dsimp only at hsp
    refine lv_iload_n hx hb dX13_goes_53 rfl (lv_at hl 1 rfl) ?_
    refine lv_iconst (v := 4) hx hb dX13_goes_54 (by decide) ?_
    refine lv_icmp_lt (tgt := 72) hx hb dX13_goes_55 (by decide) (fun c_12 => ?_) (fun c_12 => ?_)
    · rw [if_pos c_12] at hsp
      refine lv_iconst (v := 0) hx hb dX13_goes_72 (by decide) ?_
      have hr0 := Option.some.inj hsp
      clear hsp
      subst hr0
      have hP9 := hP.sub (ws' := [(h0, .inr (13, z53)), (qf105, .inl (cf105, 8, .inl f105)), (qf102, .inl (cf102, 2048, .inl f102)), (qf100, .inl (cf100, 48000, .inl f100)), (qf104, .inl (cf104, 8, .inl f104))]) [0, 1, 2, 3, 4] rfl
      have hD9 := hD.sub (ws' := [(h0, .inr (13, z53)), (qf105, .inl (cf105, 8, .inl f105)), (qf102, .inl (cf102, 2048, .inl f102)), (qf100, .inl (cf100, 48000, .inl f100)), (qf104, .inl (cf104, 8, .inl f104))]) [0, 1, 2, 3, 4] (by decide) rfl
      have hK9 := hK.sub (tys' := [(cf105, .int), (cf102, .int), (cf100, .int), (cf104, .int)]) [0, 1, 2, 3] rfl
      exact W.zret hx hb hr (by decide) (fun t ht hW => ⟨⟨(0), (z53), rfl, ⟨⟨rfl, Or.inl rfl⟩, hlh_53, hrh_53⟩, by rw [ht]; exact hP9, va_K.moved hW.alike hK9, hD9⟩, hS.F ht⟩) hS.2.2 dX13_goes_73
    · rw [if_neg c_12] at hsp
      refine lv_iload_n hx hb dX13_goes_58 rfl (lv_at hl 2 rfl) ?_
      refine lv_iconst (v := 4) hx hb dX13_goes_59 (by decide) ?_
      refine lv_icmp_lt (tgt := 72) hx hb dX13_goes_60 (by decide) (fun c_13 => ?_) (fun c_13 => ?_)
      · rw [if_pos c_13] at hsp
        refine lv_iconst (v := 0) hx hb dX13_goes_72 (by decide) ?_
        have hr0 := Option.some.inj hsp
        clear hsp
        subst hr0
        have hP9 := hP.sub (ws' := [(h0, .inr (13, z53)), (qf105, .inl (cf105, 8, .inl f105)), (qf102, .inl (cf102, 2048, .inl f102)), (qf100, .inl (cf100, 48000, .inl f100)), (qf104, .inl (cf104, 8, .inl f104))]) [0, 1, 2, 3, 4] rfl
        have hD9 := hD.sub (ws' := [(h0, .inr (13, z53)), (qf105, .inl (cf105, 8, .inl f105)), (qf102, .inl (cf102, 2048, .inl f102)), (qf100, .inl (cf100, 48000, .inl f100)), (qf104, .inl (cf104, 8, .inl f104))]) [0, 1, 2, 3, 4] (by decide) rfl
        have hK9 := hK.sub (tys' := [(cf105, .int), (cf102, .int), (cf100, .int), (cf104, .int)]) [0, 1, 2, 3] rfl
        exact W.zret hx hb hr (by decide) (fun t ht hW => ⟨⟨(0), (z53), rfl, ⟨⟨rfl, Or.inl rfl⟩, hlh_53, hrh_53⟩, by rw [ht]; exact hP9, va_K.moved hW.alike hK9, hD9⟩, hS.F ht⟩) hS.2.2 dX13_goes_73
      · rw [if_neg c_13] at hsp
        refine lv_iload_n hx hb dX13_goes_63 rfl (lv_at hl 1 rfl) ?_
        refine lv_iconst (v := 2) hx hb dX13_goes_64 (by decide) ?_
        refine lv_irem hx hb dX13_goes_65 (by decide) ?_
        refine lv_iload_n hx hb dX13_goes_66 rfl (lv_at hl 2 rfl) ?_
        refine lv_iconst (v := 2) hx hb dX13_goes_67 (by decide) ?_
        refine lv_irem hx hb dX13_goes_68 (by decide) ?_
        refine lv_icmp_eq (tgt := 74) hx hb dX13_goes_69 (by decide) (fun c_14 => ?_) (fun c_14 => ?_)
        · rw [if_pos c_14] at hsp
          refine lv_iload_n hx hb dX13_goes_74 rfl (lv_at hl 1 rfl) ?_
          refine lv_iconst (v := 4) hx hb dX13_goes_75 (by decide) ?_
          refine lv_isub hx hb dX13_goes_76 ?_
          refine lv_iconst (v := 2) hx hb dX13_goes_77 (by decide) ?_
          refine lv_idiv hx hb dX13_goes_78 (by decide) ?_
          refine lv_istore_n (lv' := [(3, .int ((l1_53 - 4) / 2)), (0, .ref h0), (1, .int l1_53), (2, .int l2_53)]) hx hb dX13_goes_79 rfl hl (by decide) rfl (fun ls hl => ?_)
          refine lv_iload_n hx hb dX13_goes_80 rfl (lv_at hl 3 rfl) ?_
          refine lv_iconst (v := 4) hx hb dX13_goes_81 (by decide) ?_
          refine lv_isub hx hb dX13_goes_82 ?_
          refine lv_iconst (v := 2) hx hb dX13_goes_83 (by decide) ?_
          refine lv_idiv hx hb dX13_goes_84 (by decide) ?_
          refine lv_istore (lv' := [(4, .int ((l2_53 - 4) / 2)), (3, .int ((l1_53 - 4) / 2)), (0, .ref h0), (1, .int l1_53), (2, .int l2_53)]) hx hb dX13_goes_85 hl (by decide) rfl (fun ls hl => ?_)
          refine lv_iload_n hx hb dX13_goes_87 rfl (lv_at hl 1 rfl) ?_
          refine lv_bipush (v := 16) hx hb dX13_goes_88 (by decide) ?_
          refine lv_icmp_ge (tgt := 114) hx hb dX13_goes_90 (by decide) (fun c_15 => ?_) (fun c_15 => ?_)
          · rw [if_pos c_15] at hsp
            refine lv_iconst (v := 0) hx hb dX13_goes_114 (by decide) ?_
            have hr0 := Option.some.inj hsp
            clear hsp
            subst hr0
            have hP9 := hP.sub (ws' := [(h0, .inr (13, z53)), (qf105, .inl (cf105, 8, .inl f105)), (qf102, .inl (cf102, 2048, .inl f102)), (qf100, .inl (cf100, 48000, .inl f100)), (qf104, .inl (cf104, 8, .inl f104))]) [0, 1, 2, 3, 4] rfl
            have hD9 := hD.sub (ws' := [(h0, .inr (13, z53)), (qf105, .inl (cf105, 8, .inl f105)), (qf102, .inl (cf102, 2048, .inl f102)), (qf100, .inl (cf100, 48000, .inl f100)), (qf104, .inl (cf104, 8, .inl f104))]) [0, 1, 2, 3, 4] (by decide) rfl
            have hK9 := hK.sub (tys' := [(cf105, .int), (cf102, .int), (cf100, .int), (cf104, .int)]) [0, 1, 2, 3] rfl
            exact W.zret hx hb hr (by decide) (fun t ht hW => ⟨⟨(0), (z53), rfl, ⟨⟨rfl, Or.inl rfl⟩, hlh_53, hrh_53⟩, by rw [ht]; exact hP9, va_K.moved hW.alike hK9, hD9⟩, hS.F ht⟩) hS.2.2 dX13_goes_115
          · rw [if_neg c_15] at hsp
            refine lv_iload hx hb dX13_goes_93 (lv_at hl 0 rfl) ?_
            refine lv_bipush (v := 16) hx hb dX13_goes_95 (by decide) ?_
            refine lv_icmp_ge (tgt := 114) hx hb dX13_goes_97 (by decide) (fun c_16 => ?_) (fun c_16 => ?_)
            · rw [if_pos c_16] at hsp
              refine lv_iconst (v := 0) hx hb dX13_goes_114 (by decide) ?_
              have hr0 := Option.some.inj hsp
              clear hsp
              subst hr0
              have hP9 := hP.sub (ws' := [(h0, .inr (13, z53)), (qf105, .inl (cf105, 8, .inl f105)), (qf102, .inl (cf102, 2048, .inl f102)), (qf100, .inl (cf100, 48000, .inl f100)), (qf104, .inl (cf104, 8, .inl f104))]) [0, 1, 2, 3, 4] rfl
              have hD9 := hD.sub (ws' := [(h0, .inr (13, z53)), (qf105, .inl (cf105, 8, .inl f105)), (qf102, .inl (cf102, 2048, .inl f102)), (qf100, .inl (cf100, 48000, .inl f100)), (qf104, .inl (cf104, 8, .inl f104))]) [0, 1, 2, 3, 4] (by decide) rfl
              have hK9 := hK.sub (tys' := [(cf105, .int), (cf102, .int), (cf100, .int), (cf104, .int)]) [0, 1, 2, 3] rfl
              exact W.zret hx hb hr (by decide) (fun t ht hW => ⟨⟨(0), (z53), rfl, ⟨⟨rfl, Or.inl rfl⟩, hlh_53, hrh_53⟩, by rw [ht]; exact hP9, va_K.moved hW.alike hK9, hD9⟩, hS.F ht⟩) hS.2.2 dX13_goes_115
            · rw [if_neg c_16] at hsp
              refine lv_aload_n hx hb dX13_goes_100 rfl (lv_at hl 2 rfl) ?_
              refine lv_iload_n hx hb dX13_goes_101 rfl (lv_at hl 1 rfl) ?_
              refine lv_iload hx hb dX13_goes_102 (lv_at hl 0 rfl) ?_
              obtain ⟨u2_0, hu_2, hsp⟩ := ox_bind hsp
              try dsimp only at hsp
              have hPc := hP.sub (ws' := [(h0, .inr (13, z53)), (qf105, .inl (cf105, 8, .inl f105)), (qf102, .inl (cf102, 2048, .inl f102)), (qf100, .inl (cf100, 48000, .inl f100)), (qf104, .inl (cf104, 8, .inl f104))]) [0, 1, 2, 3, 4] rfl
              have hDc := hD.sub (ws' := [(h0, .inr (13, z53)), (qf105, .inl (cf105, 8, .inl f105)), (qf102, .inl (cf102, 2048, .inl f102)), (qf100, .inl (cf100, 48000, .inl f100)), (qf104, .inl (cf104, 8, .inl f104))]) [0, 1, 2, 3, 4] (by decide) rfl
              have hKc := hK.sub (tys' := [(cf105, .int), (cf102, .int), (cf100, .int), (cf104, .int)]) [0, 1, 2, 3] rfl
              have hFc := va_free (wc := [(h0, .inr (13, z53)), (qf105, .inl (cf105, 8, .inl f105)), (qf102, .inl (cf102, 2048, .inl f102)), (qf100, .inl (cf100, 48000, .inl f100)), (qf104, .inl (cf104, 8, .inl f104))]) hD hS hA [0, 1, 2, 3, 4] rfl
              refine va_calli (va_runV (As := [.int ((l1_53 - 4) / 2), .int ((l2_53 - 4) / 2)]) (rest := []) ⟨hx, hb, hml, hown, hts⟩ (vm_isUnder l dC dI H.size h0 z53 (((l1_53 - 4) / 2)) (((l2_53 - 4) / 2)) v98 qf100 qf102 qf104 qf105 cf105 f105 cf102 f102 cf100 f100 cf104 f104 nS477 fS477 hS477 qS477 tS477 nf u2_0 hlh_53 hfh_53_98 hfh_53_100 hfh_53_102 hfh_53_104 hfh_53_105 hu_2) (cwV 2 hts gv_h9_101 rfl rfl rfl (by decide +kernel) ⟨Nat.le_of_ble_eq_true rfl, Nat.le_of_ble_eq_true rfl⟩) ⟨fun a U g mk q => by obtain ⟨q0, q1, qP, qK, qD, qhZWS477, qhZRS477⟩ := q; exact ⟨q0, q1, qP, va_K.moved (u := U) (U := U.calling g mk a) (Vm.Alike.refl U.vm) qK, qD, pz_W.moved (u := U) (U := U.calling g mk a) (Vm.Alike.refl U.vm) qhZWS477, vk_R.same rfl qhZRS477⟩, va_recv hKc hPc (ci := 13) (q0 := 0) rfl rfl, fun U hU hW => ⟨rfl, by rw [hU], by rw [hU]; exact hPc, va_K.moved hW.alike hKc, hDc.weaken (fun _ _ _ _ => trivial), by rw [hU]; exact ((pz_W.moved hW.alike hZWS477).kept hS.2.1).narrow hFc, vk_R.warm hW hZRS477⟩⟩ rfl rfl hl.1 rfl (lv_room (Nat.le_of_ble_eq_true rfl)) dX13_goes_104 ⟨Nat.le_of_ble_eq_true rfl, Nat.le_of_ble_eq_true rfl⟩) hS (fun q _ h => hFc q h) hFc ?_
              clear hS
              intro r_17 u t H1 locs ht hvm hw hB hz1 hk1 hS
              obtain ⟨z_2, rfl⟩ : ∃ z, z = u := ⟨_, rfl⟩
              obtain ⟨hP1, hK1, hD1⟩ := hB
              rw [ht] at hP1
              have hK1 := va_K.moved hvm.symm hK1
              try dsimp only at hw
              have hPD := va_join (wr := []) (w1 := [(h0, .inr (13, z_2)), (qf105, .inl (cf105, 8, .inl f105)), (qf102, .inl (cf102, 2048, .inl f102)), (qf100, .inl (cf100, 48000, .inl f100)), (qf104, .inl (cf104, 8, .inl f104))]) hP hD [0, 1, 2, 3, 4] [] rfl rfl (by decide) (by decide) hk1 hFc hP1 hD1
              clear hP hD
              obtain ⟨hP, hD⟩ := hPD
              replace hK := (hK.sub (tys' := []) [] rfl).app hK1
              clear hPc hDc hKc hFc hP1 hK1 hD1 hz1 hk1 ht hvm
              generalize H1 = H at hP hS ⊢
              replace hP : va_P (dC, dI) vwCl [(h0, .inr (13, z_2)), (qf105, .inl (cf105, 8, .inl f105)), (qf102, .inl (cf102, 2048, .inl f102)), (qf100, .inl (cf100, 48000, .inl f100)), (qf104, .inl (cf104, 8, .inl f104))] H := hP
              replace hD : va_D A [(h0, .inr (13, z_2)), (qf105, .inl (cf105, 8, .inl f105)), (qf102, .inl (cf102, 2048, .inl f102)), (qf100, .inl (cf100, 48000, .inl f100)), (qf104, .inl (cf104, 8, .inl f104))] := hD
              replace hK : va_K (dC, dI) vwCl [(cf105, .int), (cf102, .int), (cf100, .int), (cf104, .int)] s := hK
              obtain ⟨hwa_2, hln_2, hre_2⟩ := hw
              have hfk_2_98 : z_2[98]? = some (.int v98) := (hre_2 98 ).trans (hfh_53_98)
              have hfk_2_100 : z_2[100]? = some (.ref qf100) := (hre_2 100 ).trans (hfh_53_100)
              have hfk_2_102 : z_2[102]? = some (.ref qf102) := (hre_2 102 ).trans (hfh_53_102)
              have hfk_2_104 : z_2[104]? = some (.ref qf104) := (hre_2 104 ).trans (hfh_53_104)
              have hfk_2_105 : z_2[105]? = some (.ref qf105) := (hre_2 105 ).trans (hfh_53_105)
              have hrq_2 : ∀ j : Nat, z_2[j]? = zs[j]? := fun j  => (hre_2 j ).trans (hrh_53 j )
              obtain ⟨rfl, hz_2⟩ := hwa_2
              rcases hz_2 with rfl | rfl
              · rw [if_pos rfl] at hsp
                refine lv_if_eq (tgt := 114) hx hb dX13_goes_107 (by decide) (fun c_18 => ?_) (fun c_18 => (show False by revert c_18; decide).elim)
                refine lv_iconst (v := 0) hx hb dX13_goes_114 (by decide) ?_
                have hr0 := Option.some.inj hsp
                clear hsp
                subst hr0
                have hP9 := hP.sub (ws' := [(h0, .inr (13, z_2)), (qf105, .inl (cf105, 8, .inl f105)), (qf102, .inl (cf102, 2048, .inl f102)), (qf100, .inl (cf100, 48000, .inl f100)), (qf104, .inl (cf104, 8, .inl f104))]) [0, 1, 2, 3, 4] rfl
                have hD9 := hD.sub (ws' := [(h0, .inr (13, z_2)), (qf105, .inl (cf105, 8, .inl f105)), (qf102, .inl (cf102, 2048, .inl f102)), (qf100, .inl (cf100, 48000, .inl f100)), (qf104, .inl (cf104, 8, .inl f104))]) [0, 1, 2, 3, 4] (by decide) rfl
                have hK9 := hK.sub (tys' := [(cf105, .int), (cf102, .int), (cf100, .int), (cf104, .int)]) [0, 1, 2, 3] rfl
                exact W.zret hx hb hr (by decide) (fun t ht hW => ⟨⟨(0), (z_2), rfl, ⟨⟨rfl, Or.inl rfl⟩, hln_2, hrq_2⟩, by rw [ht]; exact hP9, va_K.moved hW.alike hK9, hD9⟩, hS.F ht⟩) hS.2.2 dX13_goes_115
              · rw [if_neg (by decide)] at hsp
                refine lv_if_eq (tgt := 114) hx hb dX13_goes_107 (by decide) (fun c_19 => (show False by revert c_19; decide).elim) (fun c_19 => ?_)
                refine lv_iconst (v := 1) hx hb dX13_goes_110 (by decide) ?_
                refine lv_goto (tgt := 115) hx hb dX13_goes_111 (by decide) ?_
                have hr0 := Option.some.inj hsp
                clear hsp
                subst hr0
                have hP9 := hP.sub (ws' := [(h0, .inr (13, z_2)), (qf105, .inl (cf105, 8, .inl f105)), (qf102, .inl (cf102, 2048, .inl f102)), (qf100, .inl (cf100, 48000, .inl f100)), (qf104, .inl (cf104, 8, .inl f104))]) [0, 1, 2, 3, 4] rfl
                have hD9 := hD.sub (ws' := [(h0, .inr (13, z_2)), (qf105, .inl (cf105, 8, .inl f105)), (qf102, .inl (cf102, 2048, .inl f102)), (qf100, .inl (cf100, 48000, .inl f100)), (qf104, .inl (cf104, 8, .inl f104))]) [0, 1, 2, 3, 4] (by decide) rfl
                have hK9 := hK.sub (tys' := [(cf105, .int), (cf102, .int), (cf100, .int), (cf104, .int)]) [0, 1, 2, 3] rfl
                exact W.zret hx hb hr (by decide) (fun t ht hW => ⟨⟨(1), (z_2), rfl, ⟨⟨rfl, Or.inr rfl⟩, hln_2, hrq_2⟩, by rw [ht]; exact hP9, va_K.moved hW.alike hK9, hD9⟩, hS.F ht⟩) hS.2.2 dX13_goes_115
        · rw [if_neg c_14] at hsp
          refine lv_iconst (v := 0) hx hb dX13_goes_72 (by decide) ?_
          have hr0 := Option.some.inj hsp
          clear hsp
          subst hr0
          have hP9 := hP.sub (ws' := [(h0, .inr (13, z53)), (qf105, .inl (cf105, 8, .inl f105)), (qf102, .inl (cf102, 2048, .inl f102)), (qf100, .inl (cf100, 48000, .inl f100)), (qf104, .inl (cf104, 8, .inl f104))]) [0, 1, 2, 3, 4] rfl
          have hD9 := hD.sub (ws' := [(h0, .inr (13, z53)), (qf105, .inl (cf105, 8, .inl f105)), (qf102, .inl (cf102, 2048, .inl f102)), (qf100, .inl (cf100, 48000, .inl f100)), (qf104, .inl (cf104, 8, .inl f104))]) [0, 1, 2, 3, 4] (by decide) rfl
          have hK9 := hK.sub (tys' := [(cf105, .int), (cf102, .int), (cf100, .int), (cf104, .int)]) [0, 1, 2, 3] rfl
          exact W.zret hx hb hr (by decide) (fun t ht hW => ⟨⟨(0), (z53), rfl, ⟨⟨rfl, Or.inl rfl⟩, hlh_53, hrh_53⟩, by rw [ht]; exact hP9, va_K.moved hW.alike hK9, hD9⟩, hS.F ht⟩) hS.2.2 dX13_goes_73
  intro hj_53
  refine lv_iload_n hx hb dX13_goes_0 rfl (lv_at hl 2 rfl) ?_
  refine lv_if_eq (tgt := 9) hx hb dX13_goes_1 (by decide) (fun c_1 => ?_) (fun c_1 => ?_)
  · rw [if_pos c_1] at hsp
    refine lv_iconst (v := 1) hx hb dX13_goes_9 (by decide) ?_
    have hr0 := Option.some.inj hsp
    clear hsp
    subst hr0
    have hP9 := hP.sub (ws' := [(h0, .inr (13, zs)), (qf105, .inl (cf105, 8, .inl f105)), (qf102, .inl (cf102, 2048, .inl f102)), (qf100, .inl (cf100, 48000, .inl f100)), (qf104, .inl (cf104, 8, .inl f104))]) [0, 1, 2, 3, 4] rfl
    have hD9 := hD.sub (ws' := [(h0, .inr (13, zs)), (qf105, .inl (cf105, 8, .inl f105)), (qf102, .inl (cf102, 2048, .inl f102)), (qf100, .inl (cf100, 48000, .inl f100)), (qf104, .inl (cf104, 8, .inl f104))]) [0, 1, 2, 3, 4] (by decide) rfl
    have hK9 := hK.sub (tys' := [(cf105, .int), (cf102, .int), (cf100, .int), (cf104, .int)]) [0, 1, 2, 3] rfl
    exact W.zret hx hb hr (by decide) (fun t ht hW => ⟨⟨(1), (zs), rfl, ⟨⟨rfl, Or.inr rfl⟩, hlen, hrs0⟩, by rw [ht]; exact hP9, va_K.moved hW.alike hK9, hD9⟩, hS.F ht⟩) hS.2.2 dX13_goes_10
  · rw [if_neg c_1] at hsp
    refine lv_iload_n hx hb dX13_goes_4 rfl (lv_at hl 1 rfl) ?_
    refine lv_iload_n hx hb dX13_goes_5 rfl (lv_at hl 2 rfl) ?_
    refine lv_icmp_ne (tgt := 11) hx hb dX13_goes_6 (by decide) (fun c_2 => ?_) (fun c_2 => ?_)
    · rw [if_neg c_2] at hsp
      refine lv_iload_n hx hb dX13_goes_11 rfl (lv_at hl 1 rfl) ?_
      refine lv_if_eq (tgt := 30) hx hb dX13_goes_12 (by decide) (fun c_3 => ?_) (fun c_3 => ?_)
      · rw [if_pos c_3] at hsp
        refine lv_iconst (v := 0) hx hb dX13_goes_30 (by decide) ?_
        have hr0 := Option.some.inj hsp
        clear hsp
        subst hr0
        have hP9 := hP.sub (ws' := [(h0, .inr (13, zs)), (qf105, .inl (cf105, 8, .inl f105)), (qf102, .inl (cf102, 2048, .inl f102)), (qf100, .inl (cf100, 48000, .inl f100)), (qf104, .inl (cf104, 8, .inl f104))]) [0, 1, 2, 3, 4] rfl
        have hD9 := hD.sub (ws' := [(h0, .inr (13, zs)), (qf105, .inl (cf105, 8, .inl f105)), (qf102, .inl (cf102, 2048, .inl f102)), (qf100, .inl (cf100, 48000, .inl f100)), (qf104, .inl (cf104, 8, .inl f104))]) [0, 1, 2, 3, 4] (by decide) rfl
        have hK9 := hK.sub (tys' := [(cf105, .int), (cf102, .int), (cf100, .int), (cf104, .int)]) [0, 1, 2, 3] rfl
        exact W.zret hx hb hr (by decide) (fun t ht hW => ⟨⟨(0), (zs), rfl, ⟨⟨rfl, Or.inl rfl⟩, hlen, hrs0⟩, by rw [ht]; exact hP9, va_K.moved hW.alike hK9, hD9⟩, hS.F ht⟩) hS.2.2 dX13_goes_31
      · rw [if_neg c_3] at hsp
        refine lv_iload_n hx hb dX13_goes_15 rfl (lv_at hl 1 rfl) ?_
        refine lv_iconst (v := 1) hx hb dX13_goes_16 (by decide) ?_
        refine lv_icmp_eq (tgt := 30) hx hb dX13_goes_17 (by decide) (fun c_4 => ?_) (fun c_4 => ?_)
        · rw [if_pos c_4] at hsp
          refine lv_iconst (v := 0) hx hb dX13_goes_30 (by decide) ?_
          have hr0 := Option.some.inj hsp
          clear hsp
          subst hr0
          have hP9 := hP.sub (ws' := [(h0, .inr (13, zs)), (qf105, .inl (cf105, 8, .inl f105)), (qf102, .inl (cf102, 2048, .inl f102)), (qf100, .inl (cf100, 48000, .inl f100)), (qf104, .inl (cf104, 8, .inl f104))]) [0, 1, 2, 3, 4] rfl
          have hD9 := hD.sub (ws' := [(h0, .inr (13, zs)), (qf105, .inl (cf105, 8, .inl f105)), (qf102, .inl (cf102, 2048, .inl f102)), (qf100, .inl (cf100, 48000, .inl f100)), (qf104, .inl (cf104, 8, .inl f104))]) [0, 1, 2, 3, 4] (by decide) rfl
          have hK9 := hK.sub (tys' := [(cf105, .int), (cf102, .int), (cf100, .int), (cf104, .int)]) [0, 1, 2, 3] rfl
          exact W.zret hx hb hr (by decide) (fun t ht hW => ⟨⟨(0), (zs), rfl, ⟨⟨rfl, Or.inl rfl⟩, hlen, hrs0⟩, by rw [ht]; exact hP9, va_K.moved hW.alike hK9, hD9⟩, hS.F ht⟩) hS.2.2 dX13_goes_31
        · rw [if_neg c_4] at hsp
          refine lv_iload_n hx hb dX13_goes_20 rfl (lv_at hl 2 rfl) ?_
          refine lv_iconst (v := 1) hx hb dX13_goes_21 (by decide) ?_
          refine lv_icmp_eq (tgt := 30) hx hb dX13_goes_22 (by decide) (fun c_5 => ?_) (fun c_5 => ?_)
          · rw [if_pos c_5] at hsp
            refine lv_iconst (v := 0) hx hb dX13_goes_30 (by decide) ?_
            have hr0 := Option.some.inj hsp
            clear hsp
            subst hr0
            have hP9 := hP.sub (ws' := [(h0, .inr (13, zs)), (qf105, .inl (cf105, 8, .inl f105)), (qf102, .inl (cf102, 2048, .inl f102)), (qf100, .inl (cf100, 48000, .inl f100)), (qf104, .inl (cf104, 8, .inl f104))]) [0, 1, 2, 3, 4] rfl
            have hD9 := hD.sub (ws' := [(h0, .inr (13, zs)), (qf105, .inl (cf105, 8, .inl f105)), (qf102, .inl (cf102, 2048, .inl f102)), (qf100, .inl (cf100, 48000, .inl f100)), (qf104, .inl (cf104, 8, .inl f104))]) [0, 1, 2, 3, 4] (by decide) rfl
            have hK9 := hK.sub (tys' := [(cf105, .int), (cf102, .int), (cf100, .int), (cf104, .int)]) [0, 1, 2, 3] rfl
            exact W.zret hx hb hr (by decide) (fun t ht hW => ⟨⟨(0), (zs), rfl, ⟨⟨rfl, Or.inl rfl⟩, hlen, hrs0⟩, by rw [ht]; exact hP9, va_K.moved hW.alike hK9, hD9⟩, hS.F ht⟩) hS.2.2 dX13_goes_31
          · rw [if_neg c_5] at hsp
            refine lv_iload_n hx hb dX13_goes_25 rfl (lv_at hl 2 rfl) ?_
            refine lv_iconst (v := 2) hx hb dX13_goes_26 (by decide) ?_
            refine lv_icmp_ne (tgt := 32) hx hb dX13_goes_27 (by decide) (fun c_6 => ?_) (fun c_6 => ?_)
            · rw [if_neg c_6] at hsp
              refine lv_iload_n hx hb dX13_goes_32 rfl (lv_at hl 1 rfl) ?_
              refine lv_iconst (v := 2) hx hb dX13_goes_33 (by decide) ?_
              refine lv_icmp_ne (tgt := 39) hx hb dX13_goes_34 (by decide) (fun c_7 => ?_) (fun c_7 => ?_)
              · rw [if_neg c_7] at hsp
                refine lv_iload_n hx hb dX13_goes_39 rfl (lv_at hl 1 rfl) ?_
                obtain ⟨u1_0, hu_1, hsp⟩ := ox_bind hsp
                try dsimp only at hsp
                have hPc := hP.sub (ws' := []) [] rfl
                have hDc := hD.sub (ws' := []) [] (by decide) rfl
                have hKc := hK.sub (tys' := []) [] rfl
                have hFc := va_free (wc := []) hD hS hA [] rfl
                refine va_calli (va_runS (As := [.int a1]) (rest := []) ⟨hx, hb, hml, hown, hts⟩ (tm_isRow l dC dI H.size a1 nf u1_0 hu_1) (va_cwS 1 hts gv_h9_56 rfl rfl rfl (by decide +kernel) ⟨Nat.le_of_ble_eq_true rfl, Nat.le_of_ble_eq_true rfl⟩) ⟨fun a U g mk q => by obtain ⟨q0, q1, qP, qK, qD⟩ := q; exact ⟨q0, q1, qP, va_K.moved (u := U) (U := U.calling g mk a) (Vm.Alike.refl U.vm) qK, qD⟩, fun U hU hW => ⟨rfl, by rw [hU], by rw [hU]; exact hPc, va_K.moved hW.alike hKc, hDc.weaken (fun _ _ _ _ => trivial)⟩⟩ rfl rfl hl.1 rfl (lv_room (Nat.le_of_ble_eq_true rfl)) dX13_goes_40 ⟨Nat.le_of_ble_eq_true rfl, Nat.le_of_ble_eq_true rfl⟩) hS (fun q _ h => hFc q h) hFc ?_
                clear hS
                intro r_8 u t H1 locs ht hvm hw hB hz1 hk1 hS
                obtain ⟨⟩ := u
                obtain ⟨hP1, hK1, hD1⟩ := hB
                rw [ht] at hP1
                have hK1 := va_K.moved hvm.symm hK1
                try dsimp only at hw
                have hPD := va_join (wr := [(h0, .inr (13, zs)), (qf105, .inl (cf105, 8, .inl f105)), (qf102, .inl (cf102, 2048, .inl f102)), (qf100, .inl (cf100, 48000, .inl f100)), (qf104, .inl (cf104, 8, .inl f104))]) (w1 := []) hP hD [] [0, 1, 2, 3, 4] rfl rfl (by decide) (by decide) hk1 hFc hP1 hD1
                clear hP hD
                obtain ⟨hP, hD⟩ := hPD
                replace hK := (hK.sub (tys' := [(cf105, .int), (cf102, .int), (cf100, .int), (cf104, .int)]) [0, 1, 2, 3] rfl).app hK1
                clear hPc hDc hKc hFc hP1 hK1 hD1 hz1 hk1 ht hvm
                generalize H1 = H at hP hS ⊢
                replace hP : va_P (dC, dI) vwCl [(h0, .inr (13, zs)), (qf105, .inl (cf105, 8, .inl f105)), (qf102, .inl (cf102, 2048, .inl f102)), (qf100, .inl (cf100, 48000, .inl f100)), (qf104, .inl (cf104, 8, .inl f104))] H := hP
                replace hD : va_D A [(h0, .inr (13, zs)), (qf105, .inl (cf105, 8, .inl f105)), (qf102, .inl (cf102, 2048, .inl f102)), (qf100, .inl (cf100, 48000, .inl f100)), (qf104, .inl (cf104, 8, .inl f104))] := hD
                replace hK : va_K (dC, dI) vwCl [(cf105, .int), (cf102, .int), (cf100, .int), (cf104, .int)] s := hK
                obtain ⟨rfl, hz_1⟩ := hw
                rcases hz_1 with rfl | rfl
                · rw [if_pos rfl] at hsp
                  refine lv_if_eq (tgt := 53) hx hb dX13_goes_43 (by decide) (fun c_9 => ?_) (fun c_9 => (show False by revert c_9; decide).elim)
                  exact hj_53 (H, locs, ls, zs, a1, a2) ⟨lv_sub hl [0, 1, 2] rfl, hS, hD.sub (ws' := [(h0, .inr (13, zs)), (qf105, .inl (cf105, 8, .inl f105)), (qf102, .inl (cf102, 2048, .inl f102)), (qf100, .inl (cf100, 48000, .inl f100)), (qf104, .inl (cf104, 8, .inl f104))]) [0, 1, 2, 3, 4] (by decide) rfl, hP.sub (ws' := [(h0, .inr (13, zs)), (qf105, .inl (cf105, 8, .inl f105)), (qf102, .inl (cf102, 2048, .inl f102)), (qf100, .inl (cf100, 48000, .inl f100)), (qf104, .inl (cf104, 8, .inl f104))]) [0, 1, 2, 3, 4] rfl, hf98, hf100, hf102, hf104, hf105, hlen, hrs0, hsp⟩
                · rw [if_neg (by decide)] at hsp
                  refine lv_if_eq (tgt := 53) hx hb dX13_goes_43 (by decide) (fun c_10 => (show False by revert c_10; decide).elim) (fun c_10 => ?_)
                  refine lv_iload_n hx hb dX13_goes_46 rfl (lv_at hl 2 rfl) ?_
                  refine lv_iconst (v := 4) hx hb dX13_goes_47 (by decide) ?_
                  refine lv_icmp_ne (tgt := 53) hx hb dX13_goes_48 (by decide) (fun c_11 => ?_) (fun c_11 => ?_)
                  · rw [if_neg c_11] at hsp
                    exact hj_53 (H, locs, ls, zs, a1, a2) ⟨lv_sub hl [0, 1, 2] rfl, hS, hD.sub (ws' := [(h0, .inr (13, zs)), (qf105, .inl (cf105, 8, .inl f105)), (qf102, .inl (cf102, 2048, .inl f102)), (qf100, .inl (cf100, 48000, .inl f100)), (qf104, .inl (cf104, 8, .inl f104))]) [0, 1, 2, 3, 4] (by decide) rfl, hP.sub (ws' := [(h0, .inr (13, zs)), (qf105, .inl (cf105, 8, .inl f105)), (qf102, .inl (cf102, 2048, .inl f102)), (qf100, .inl (cf100, 48000, .inl f100)), (qf104, .inl (cf104, 8, .inl f104))]) [0, 1, 2, 3, 4] rfl, hf98, hf100, hf102, hf104, hf105, hlen, hrs0, hsp⟩
                  · rw [if_pos c_11] at hsp
                    refine lv_iconst (v := 1) hx hb dX13_goes_51 (by decide) ?_
                    have hr0 := Option.some.inj hsp
                    clear hsp
                    subst hr0
                    have hP9 := hP.sub (ws' := [(h0, .inr (13, zs)), (qf105, .inl (cf105, 8, .inl f105)), (qf102, .inl (cf102, 2048, .inl f102)), (qf100, .inl (cf100, 48000, .inl f100)), (qf104, .inl (cf104, 8, .inl f104))]) [0, 1, 2, 3, 4] rfl
                    have hD9 := hD.sub (ws' := [(h0, .inr (13, zs)), (qf105, .inl (cf105, 8, .inl f105)), (qf102, .inl (cf102, 2048, .inl f102)), (qf100, .inl (cf100, 48000, .inl f100)), (qf104, .inl (cf104, 8, .inl f104))]) [0, 1, 2, 3, 4] (by decide) rfl
                    have hK9 := hK.sub (tys' := [(cf105, .int), (cf102, .int), (cf100, .int), (cf104, .int)]) [0, 1, 2, 3] rfl
                    exact W.zret hx hb hr (by decide) (fun t ht hW => ⟨⟨(1), (zs), rfl, ⟨⟨rfl, Or.inr rfl⟩, hlen, hrs0⟩, by rw [ht]; exact hP9, va_K.moved hW.alike hK9, hD9⟩, hS.F ht⟩) hS.2.2 dX13_goes_52
              · rw [if_pos c_7] at hsp
                refine lv_iconst (v := 1) hx hb dX13_goes_37 (by decide) ?_
                have hr0 := Option.some.inj hsp
                clear hsp
                subst hr0
                have hP9 := hP.sub (ws' := [(h0, .inr (13, zs)), (qf105, .inl (cf105, 8, .inl f105)), (qf102, .inl (cf102, 2048, .inl f102)), (qf100, .inl (cf100, 48000, .inl f100)), (qf104, .inl (cf104, 8, .inl f104))]) [0, 1, 2, 3, 4] rfl
                have hD9 := hD.sub (ws' := [(h0, .inr (13, zs)), (qf105, .inl (cf105, 8, .inl f105)), (qf102, .inl (cf102, 2048, .inl f102)), (qf100, .inl (cf100, 48000, .inl f100)), (qf104, .inl (cf104, 8, .inl f104))]) [0, 1, 2, 3, 4] (by decide) rfl
                have hK9 := hK.sub (tys' := [(cf105, .int), (cf102, .int), (cf100, .int), (cf104, .int)]) [0, 1, 2, 3] rfl
                exact W.zret hx hb hr (by decide) (fun t ht hW => ⟨⟨(1), (zs), rfl, ⟨⟨rfl, Or.inr rfl⟩, hlen, hrs0⟩, by rw [ht]; exact hP9, va_K.moved hW.alike hK9, hD9⟩, hS.F ht⟩) hS.2.2 dX13_goes_38
            · rw [if_pos c_6] at hsp
              refine lv_iconst (v := 0) hx hb dX13_goes_30 (by decide) ?_
              have hr0 := Option.some.inj hsp
              clear hsp
              subst hr0
              have hP9 := hP.sub (ws' := [(h0, .inr (13, zs)), (qf105, .inl (cf105, 8, .inl f105)), (qf102, .inl (cf102, 2048, .inl f102)), (qf100, .inl (cf100, 48000, .inl f100)), (qf104, .inl (cf104, 8, .inl f104))]) [0, 1, 2, 3, 4] rfl
              have hD9 := hD.sub (ws' := [(h0, .inr (13, zs)), (qf105, .inl (cf105, 8, .inl f105)), (qf102, .inl (cf102, 2048, .inl f102)), (qf100, .inl (cf100, 48000, .inl f100)), (qf104, .inl (cf104, 8, .inl f104))]) [0, 1, 2, 3, 4] (by decide) rfl
              have hK9 := hK.sub (tys' := [(cf105, .int), (cf102, .int), (cf100, .int), (cf104, .int)]) [0, 1, 2, 3] rfl
              exact W.zret hx hb hr (by decide) (fun t ht hW => ⟨⟨(0), (zs), rfl, ⟨⟨rfl, Or.inl rfl⟩, hlen, hrs0⟩, by rw [ht]; exact hP9, va_K.moved hW.alike hK9, hD9⟩, hS.F ht⟩) hS.2.2 dX13_goes_31
    · rw [if_pos c_2] at hsp
      refine lv_iconst (v := 1) hx hb dX13_goes_9 (by decide) ?_
      have hr0 := Option.some.inj hsp
      clear hsp
      subst hr0
      have hP9 := hP.sub (ws' := [(h0, .inr (13, zs)), (qf105, .inl (cf105, 8, .inl f105)), (qf102, .inl (cf102, 2048, .inl f102)), (qf100, .inl (cf100, 48000, .inl f100)), (qf104, .inl (cf104, 8, .inl f104))]) [0, 1, 2, 3, 4] rfl
      have hD9 := hD.sub (ws' := [(h0, .inr (13, zs)), (qf105, .inl (cf105, 8, .inl f105)), (qf102, .inl (cf102, 2048, .inl f102)), (qf100, .inl (cf100, 48000, .inl f100)), (qf104, .inl (cf104, 8, .inl f104))]) [0, 1, 2, 3, 4] (by decide) rfl
      have hK9 := hK.sub (tys' := [(cf105, .int), (cf102, .int), (cf100, .int), (cf104, .int)]) [0, 1, 2, 3] rfl
      exact W.zret hx hb hr (by decide) (fun t ht hW => ⟨⟨(1), (zs), rfl, ⟨⟨rfl, Or.inr rfl⟩, hlen, hrs0⟩, by rw [ht]; exact hP9, va_K.moved hW.alike hK9, hD9⟩, hS.F ht⟩) hS.2.2 dX13_goes_10
def jn_vm_holder_115 (nf : Nat) (a1 : Int32) (a2 : Int32) (a3 : Int32) (a4 : Int32) (v98 : Int32) (v121 : Int32) (f105 : Nat → Int32) (f102 : Nat → Int32) (f100 : Nat → Int32) (f104 : Nat → Int32) (f106 : Nat → Int32) (f108 : Nat → Int32) (f107 : Nat → Int32) (f109 : Nat → Int32) (nS477 : Nat) (fS477 : Nat → Int32) (kk_6 : Int32 → Int32 → Int32 → Int32 → Int32 → Int32 → Option (Int32 × Int32)) (kk_60 : Int32 → Int32 → Int32 → Int32 → Int32 → Int32 → Int32 → Int32 → Int32 → Option (Int32 × Int32)) (l2_115 : Int32) (l3_115 : Int32) (l4_115 : Int32) (l5_115 : Int32) (l6_115 : Int32) (l7_115 : Int32) (l8_115 : Int32) (l9_115 : Int32) (s0_115 : Int32) (x121_115 : Int32) : Option (Int32 × Int32) := ((sp_vm_sameText nf l7_115 s0_115 l2_115 l3_115 f102 f100).bind (fun p1 => (if p1 = 0 then (kk_60 l2_115 l3_115 l4_115 l5_115 l6_115 l7_115 l8_115 (l9_115 + 1) x121_115) else (some (l5_115, l9_115)))))
def lp_vm_holder_60 (nf n : Nat) (a1 : Int32) (a2 : Int32) (a3 : Int32) (a4 : Int32) (v98 : Int32) (v121 : Int32) (f105 : Nat → Int32) (f102 : Nat → Int32) (f100 : Nat → Int32) (f104 : Nat → Int32) (f106 : Nat → Int32) (f108 : Nat → Int32) (f107 : Nat → Int32) (f109 : Nat → Int32) (nS477 : Nat) (fS477 : Nat → Int32) (kk_6 : Int32 → Int32 → Int32 → Int32 → Int32 → Int32 → Option (Int32 × Int32)) (l2_60 : Int32) (l3_60 : Int32) (l4_60 : Int32) (l5_60 : Int32) (l6_60 : Int32) (l7_60 : Int32) (l8_60 : Int32) (l9_60 : Int32) (x121_60 : Int32) : Option (Int32 × Int32) := match n with
  | 0 => none
  | n + 1 => (if l8_60 ≤ l9_60 then ((sp_vm_superOf nf l5_60 v98 f105 f102 f100 f104 nS477 fS477).bind (fun p1 => (kk_6 l2_60 l3_60 l4_60 p1 (l6_60 + 1) x121_60))) else (if l4_60 = 0 then (if ((12 * l7_60) + l9_60) < 0 then none else if 96 ≤ (((12 * l7_60) + l9_60) : Int32).toNatClampNeg then none else ((sp_tm_byteAt nf l7_60 (f107 (((12 * l7_60) + l9_60) : Int32).toNatClampNeg) f100).bind (fun p2 => (jn_vm_holder_115 nf a1 a2 a3 a4 v98 v121 f105 f102 f100 f104 f106 f108 f107 f109 nS477 fS477 kk_6 (lp_vm_holder_60 nf n a1 a2 a3 a4 v98 v121 f105 f102 f100 f104 f106 f108 f107 f109 nS477 fS477 kk_6) l2_60 l3_60 l4_60 l5_60 l6_60 l7_60 l8_60 l9_60 p2 x121_60)))) else (if ((12 * l7_60) + l9_60) < 0 then none else if 96 ≤ (((12 * l7_60) + l9_60) : Int32).toNatClampNeg then none else ((sp_tm_byteAt nf l7_60 ((f109 (((12 * l7_60) + l9_60) : Int32).toNatClampNeg) + 1) f100).bind (fun p3 => (jn_vm_holder_115 nf a1 a2 a3 a4 v98 v121 f105 f102 f100 f104 f106 f108 f107 f109 nS477 fS477 kk_6 (lp_vm_holder_60 nf n a1 a2 a3 a4 v98 v121 f105 f102 f100 f104 f106 f108 f107 f109 nS477 fS477 kk_6) l2_60 l3_60 l4_60 l5_60 l6_60 l7_60 l8_60 l9_60 p3 x121_60))))))
def jn_vm_holder_55 (nf : Nat) (a1 : Int32) (a2 : Int32) (a3 : Int32) (a4 : Int32) (v98 : Int32) (v121 : Int32) (f105 : Nat → Int32) (f102 : Nat → Int32) (f100 : Nat → Int32) (f104 : Nat → Int32) (f106 : Nat → Int32) (f108 : Nat → Int32) (f107 : Nat → Int32) (f109 : Nat → Int32) (nS477 : Nat) (fS477 : Nat → Int32) (kk_6 : Int32 → Int32 → Int32 → Int32 → Int32 → Int32 → Option (Int32 × Int32)) (l2_55 : Int32) (l3_55 : Int32) (l4_55 : Int32) (l5_55 : Int32) (l6_55 : Int32) (l7_55 : Int32) (s0_55 : Int32) (x121_55 : Int32) : Option (Int32 × Int32) := (lp_vm_holder_60 nf nf a1 a2 a3 a4 v98 v121 f105 f102 f100 f104 f106 f108 f107 f109 nS477 fS477 kk_6 l2_55 l3_55 l4_55 l5_55 l6_55 l7_55 s0_55 0 x121_55)
def lp_vm_holder_6 (nf n : Nat) (a1 : Int32) (a2 : Int32) (a3 : Int32) (a4 : Int32) (v98 : Int32) (v121 : Int32) (f105 : Nat → Int32) (f102 : Nat → Int32) (f100 : Nat → Int32) (f104 : Nat → Int32) (f106 : Nat → Int32) (f108 : Nat → Int32) (f107 : Nat → Int32) (f109 : Nat → Int32) (nS477 : Nat) (fS477 : Nat → Int32)  (l2_6 : Int32) (l3_6 : Int32) (l4_6 : Int32) (l5_6 : Int32) (l6_6 : Int32) (x121_6 : Int32) : Option (Int32 × Int32) := match n with
  | 0 => none
  | n + 1 => (if 16 < l6_6 then (some ((-1), x121_6)) else (if l5_6 = (-1) then (some ((-1), x121_6)) else (if l5_6 < 8 then ((sp_vm_superOf nf l5_6 v98 f105 f102 f100 f104 nS477 fS477).bind (fun p1 => (lp_vm_holder_6 nf n a1 a2 a3 a4 v98 v121 f105 f102 f100 f104 f106 f108 f107 f109 nS477 fS477 l2_6 l3_6 l4_6 p1 (l6_6 + 1) x121_6))) else (if l4_6 = 0 then (if (l5_6 - 8) < 0 then none else if 8 ≤ ((l5_6 - 8) : Int32).toNatClampNeg then none else (jn_vm_holder_55 nf a1 a2 a3 a4 v98 v121 f105 f102 f100 f104 f106 f108 f107 f109 nS477 fS477 (lp_vm_holder_6 nf n a1 a2 a3 a4 v98 v121 f105 f102 f100 f104 f106 f108 f107 f109 nS477 fS477) l2_6 l3_6 l4_6 l5_6 l6_6 (l5_6 - 8) (f106 ((l5_6 - 8) : Int32).toNatClampNeg) x121_6)) else (if (l5_6 - 8) < 0 then none else if 8 ≤ ((l5_6 - 8) : Int32).toNatClampNeg then none else (jn_vm_holder_55 nf a1 a2 a3 a4 v98 v121 f105 f102 f100 f104 f106 f108 f107 f109 nS477 fS477 (lp_vm_holder_6 nf n a1 a2 a3 a4 v98 v121 f105 f102 f100 f104 f106 f108 f107 f109 nS477 fS477) l2_6 l3_6 l4_6 l5_6 l6_6 (l5_6 - 8) (f108 ((l5_6 - 8) : Int32).toNatClampNeg) x121_6))))))
def sp_vm_holder (nf : Nat) (a1 : Int32) (a2 : Int32) (a3 : Int32) (a4 : Int32) (v98 : Int32) (v121 : Int32) (f105 : Nat → Int32) (f102 : Nat → Int32) (f100 : Nat → Int32) (f104 : Nat → Int32) (f106 : Nat → Int32) (f108 : Nat → Int32) (f107 : Nat → Int32) (f109 : Nat → Int32) (nS477 : Nat) (fS477 : Nat → Int32) : Option (Int32 × Int32) := (lp_vm_holder_6 nf nf a1 a2 a3 a4 v98 v121 f105 f102 f100 f104 f106 f108 f107 f109 nS477 fS477  a2 a3 a4 a1 0 v121)
set_option maxHeartbeats 4000000 in
set_option maxRecDepth 100000 in
/-- ClassMillModel.holder -/
theorem vm_holder (l : Launch) (dC : Nat → ClassId) (dI : Nat → Nat → Nat) (sz : Nat) (h0 : Nat) (zs : (List Value)) (a1 : Int32) (a2 : Int32) (a3 : Int32) (a4 : Int32) (v98 : Int32) (qf100 : Nat) (qf102 : Nat) (qf104 : Nat) (qf105 : Nat) (qf106 : Nat) (qf107 : Nat) (qf108 : Nat) (qf109 : Nat) (v121 : Int32) (cf105 : ClassId) (f105 : (Nat → Int32)) (cf102 : ClassId) (f102 : (Nat → Int32)) (cf100 : ClassId) (f100 : (Nat → Int32)) (cf104 : ClassId) (f104 : (Nat → Int32)) (cf106 : ClassId) (f106 : (Nat → Int32)) (cf108 : ClassId) (f108 : (Nat → Int32)) (cf107 : ClassId) (f107 : (Nat → Int32)) (cf109 : ClassId) (f109 : (Nat → Int32)) (nS477 : Nat) (fS477 : (Nat → Int32)) (hS477 : Nat) (qS477 : Nat) (tS477 : String) (nf : Nat) (r0 : Int32) (w121 : Int32) (hlen : zs.length = 155) (hf98 : zs[98]? = some (.int v98)) (hf100 : zs[100]? = some (.ref qf100)) (hf102 : zs[102]? = some (.ref qf102)) (hf104 : zs[104]? = some (.ref qf104)) (hf105 : zs[105]? = some (.ref qf105)) (hf106 : zs[106]? = some (.ref qf106)) (hf107 : zs[107]? = some (.ref qf107)) (hf108 : zs[108]? = some (.ref qf108)) (hf109 : zs[109]? = some (.ref qf109)) (hf121 : zs[121]? = some (.int v121)) (hsp : sp_vm_holder nf a1 a2 a3 a4 v98 v121 f105 f102 f100 f104 f106 f108 f107 f109 nS477 fS477 = some (r0, w121)) : Met l yX13_holder (.code yX13_holder cX13_holder 11 (some .int) :: VS_h9) ({ frames := 8, cells := 0, slots := 0, locals := 181 }) (va_Pc [.ref h0, .int a1, .int a2, .int a3, .int a4] (fun U => U.heap.size = sz ∧ va_P (dC, dI) vwCl [(h0, .inr (13, zs)), (qf105, .inl (cf105, 8, .inl f105)), (qf102, .inl (cf102, 2048, .inl f102)), (qf100, .inl (cf100, 48000, .inl f100)), (qf104, .inl (cf104, 8, .inl f104)), (qf106, .inl (cf106, 8, .inl f106)), (qf108, .inl (cf108, 8, .inl f108)), (qf107, .inl (cf107, 96, .inl f107)), (qf109, .inl (cf109, 96, .inl f109))] U.heap ∧ va_K (dC, dI) vwCl [(cf105, .int), (cf102, .int), (cf100, .int), (cf104, .int), (cf106, .int), (cf108, .int), (cf107, .int), (cf109, .int)] U ∧ va_D (fun _ => True) [(h0, .inr (13, zs)), (qf105, .inl (cf105, 8, .inl f105)), (qf102, .inl (cf102, 2048, .inl f102)), (qf100, .inl (cf100, 48000, .inl f100)), (qf104, .inl (cf104, 8, .inl f104)), (qf106, .inl (cf106, 8, .inl f106)), (qf108, .inl (cf108, 8, .inl f108)), (qf107, .inl (cf107, 96, .inl f107)), (qf109, .inl (cf109, 96, .inl f109))] ∧ pz_W nS477 fS477 hS477 qS477 (va_A [(h0, .inr (13, zs)), (qf105, .inl (cf105, 8, .inl f105)), (qf102, .inl (cf102, 2048, .inl f102)), (qf100, .inl (cf100, 48000, .inl f100)), (qf104, .inl (cf104, 8, .inl f104)), (qf106, .inl (cf106, 8, .inl f106)), (qf108, .inl (cf108, 8, .inl f108)), (qf107, .inl (cf107, 96, .inl f107)), (qf109, .inl (cf109, 96, .inl f109))] sz) U U.heap ∧ vk_R RX13 477 tS477 hS477 U)) (va_Qi (fun (r : Int32) (u : (List Value)) => match u with | (zo1) => r0 = r ∧ zo1.length = 155 ∧ (∀ j : Nat, j ≠ 121 → zo1[j]? = zs[j]?) ∧ zo1[121]? = some (.int w121)) (fun (u : (List Value)) (t : State) => match u with | (zo1) => va_P (dC, dI) vwCl [(h0, .inr (13, zo1)), (qf105, .inl (cf105, 8, .inl f105)), (qf102, .inl (cf102, 2048, .inl f102)), (qf100, .inl (cf100, 48000, .inl f100)), (qf104, .inl (cf104, 8, .inl f104)), (qf106, .inl (cf106, 8, .inl f106)), (qf108, .inl (cf108, 8, .inl f108)), (qf107, .inl (cf107, 96, .inl f107)), (qf109, .inl (cf109, 96, .inl f109))] t.heap ∧ va_K (dC, dI) vwCl [(cf105, .int), (cf102, .int), (cf100, .int), (cf104, .int), (cf106, .int), (cf108, .int), (cf107, .int), (cf109, .int)] t ∧ va_D (va_A [(h0, .inr (13, zs)), (qf105, .inl (cf105, 8, .inl f105)), (qf102, .inl (cf102, 2048, .inl f102)), (qf100, .inl (cf100, 48000, .inl f100)), (qf104, .inl (cf104, 8, .inl f104)), (qf106, .inl (cf106, 8, .inl f106)), (qf108, .inl (cf108, 8, .inl f108)), (qf107, .inl (cf107, 96, .inl f107)), (qf109, .inl (cf109, 96, .inl f109))] sz) [(h0, .inr (13, zo1)), (qf105, .inl (cf105, 8, .inl f105)), (qf102, .inl (cf102, 2048, .inl f102)), (qf100, .inl (cf100, 48000, .inl f100)), (qf104, .inl (cf104, 8, .inl f104)), (qf106, .inl (cf106, 8, .inl f106)), (qf108, .inl (cf108, 8, .inl f108)), (qf107, .inl (cf107, 96, .inl f107)), (qf109, .inl (cf109, 96, .inl f109))]) (va_A [(h0, .inr (13, zs)), (qf105, .inl (cf105, 8, .inl f105)), (qf102, .inl (cf102, 2048, .inl f102)), (qf100, .inl (cf100, 48000, .inl f100)), (qf104, .inl (cf104, 8, .inl f104)), (qf106, .inl (cf106, 8, .inl f106)), (qf108, .inl (cf108, 8, .inl f108)), (qf107, .inl (cf107, 96, .inl f107)), (qf109, .inl (cf109, 96, .inl f109))] sz)) 0 0 (va_A [(h0, .inr (13, zs)), (qf105, .inl (cf105, 8, .inl f105)), (qf102, .inl (cf102, 2048, .inl f102)), (qf100, .inl (cf100, 48000, .inl f100)), (qf104, .inl (cf104, 8, .inl f104)), (qf106, .inl (cf106, 8, .inl f106)), (qf108, .inl (cf108, 8, .inl f108)), (qf107, .inl (cf107, 96, .inl f107)), (qf109, .inl (cf109, 96, .inl f109))] sz) := by
  refine Met.ofW (cc := cX13_holder) (maxL := 11) (ret := (some .int)) (by decide) rfl ?_
  intro p e s m args below meth c s₁ B hml hv
  obtain ⟨rfl, hsz, hP, hK, hD0, hZWS477, hZRS477⟩ := hv
  have hx := B.exec
  have hb := B.bytes
  have hr := B.returns
  have hts := atoms_spec (ws := (.code yX13_holder cX13_holder 11 (some .int) :: VS_h9)) B.pre
  replace hts := fun w (h : w ∈ VS_h9) => hts w (List.mem_cons_of_mem _ h)
  have hown : s.vm.findClass RX13 = some m.cls := findClass_of_methodNamed B.named
  have hlocks := B.notSynchronized
  subst hsz
  have hD := hD0.self (sz := s.heap.size)
  generalize hAe : va_A [(h0, .inr (13, zs)), (qf105, .inl (cf105, 8, .inl f105)), (qf102, .inl (cf102, 2048, .inl f102)), (qf100, .inl (cf100, 48000, .inl f100)), (qf104, .inl (cf104, 8, .inl f104)), (qf106, .inl (cf106, 8, .inl f106)), (qf108, .inl (cf108, 8, .inl f108)), (qf107, .inl (cf107, 96, .inl f107)), (qf109, .inl (cf109, 96, .inl f109))] s.heap.size = A at hD hZWS477 ⊢
  have hA : ∀ q : Nat, s.heap.size ≤ q → A q := fun q h => by rw [← hAe]; exact Or.inr h
  have hP : va_P (dC, dI) vwCl [(h0, .inr (13, zs)), (qf105, .inl (cf105, 8, .inl f105)), (qf102, .inl (cf102, 2048, .inl f102)), (qf100, .inl (cf100, 48000, .inl f100)), (qf104, .inl (cf104, 8, .inl f104)), (qf106, .inl (cf106, 8, .inl f106)), (qf108, .inl (cf108, 8, .inl f108)), (qf107, .inl (cf107, 96, .inl f107)), (qf109, .inl (cf109, 96, .inl f109))] s.heap := hP
  have hl := lv_entry ([.ref h0, .int a1, .int a2, .int a3, .int a4]) (n := 11) (Nat.le_of_ble_eq_true rfl)
  rw [lg_entry_eq]
  generalize (lg_sl ([.ref h0, .int a1, .int a2, .int a3, .int a4]) ++ List.replicate (11 - (lg_sl ([.ref h0, .int a1, .int a2, .int a3, .int a4])).length) Slot.unset).toArray = ls at hl ⊢
  have hl : lv_has ls 11 [(0, .ref h0), (1, .int a1), (2, .int a2), (3, .int a3), (4, .int a4)] := hl
  obtain ⟨H, hH⟩ : ∃ H : Heap, s.heap = H := ⟨_, rfl⟩
  rw [hH] at hP ⊢
  have hS : va_S A s.heap H [] := by rw [← hH]; exact va_S.rf
  obtain ⟨locs, hlo⟩ : ∃ locs : List Loc, locs = [] := ⟨_, rfl⟩
  rw [← hlo] at hS ⊢
  have hrs0 : ∀ j : Nat, j ≠ 121 → zs[j]? = zs[j]? := fun _ _  => rfl
  unfold sp_vm_holder at hsp
  refine lv_iload_n hx hb dX13_holder_0 rfl (lv_at hl 1 rfl) ?_
  refine lv_istore (lv' := [(5, .int a1), (0, .ref h0), (1, .int a1), (2, .int a2), (3, .int a3), (4, .int a4)]) hx hb dX13_holder_1 hl (by decide) rfl (fun ls hl => ?_)
  refine lv_iconst (v := 0) hx hb dX13_holder_3 (by decide) ?_
  refine lv_istore (lv' := [(6, .int 0), (5, .int a1), (0, .ref h0), (1, .int a1), (2, .int a2), (3, .int a3), (4, .int a4)]) hx hb dX13_holder_4 hl (by decide) rfl (fun ls hl => ?_)
  replace hl : lv_has ls 11 [(6, .int 0), (5, .int a1), (0, .ref h0), (2, .int a2), (3, .int a3), (4, .int a4)] := lv_sub hl [0, 1, 2, 4, 5, 6] rfl
  replace hP := hP.sub (ws' := [(h0, .inr (13, zs)), (qf105, .inl (cf105, 8, .inl f105)), (qf102, .inl (cf102, 2048, .inl f102)), (qf100, .inl (cf100, 48000, .inl f100)), (qf104, .inl (cf104, 8, .inl f104)), (qf106, .inl (cf106, 8, .inl f106)), (qf108, .inl (cf108, 8, .inl f108)), (qf107, .inl (cf107, 96, .inl f107)), (qf109, .inl (cf109, 96, .inl f109))]) [0, 1, 2, 3, 4, 5, 6, 7, 8] rfl
  replace hD := hD.sub (ws' := [(h0, .inr (13, zs)), (qf105, .inl (cf105, 8, .inl f105)), (qf102, .inl (cf102, 2048, .inl f102)), (qf100, .inl (cf100, 48000, .inl f100)), (qf104, .inl (cf104, 8, .inl f104)), (qf106, .inl (cf106, 8, .inl f106)), (qf108, .inl (cf108, 8, .inl f108)), (qf107, .inl (cf107, 96, .inl f107)), (qf109, .inl (cf109, 96, .inl f109))]) [0, 1, 2, 3, 4, 5, 6, 7, 8] (by decide) rfl
  replace hK := hK.sub (tys' := [(cf105, .int), (cf102, .int), (cf100, .int), (cf104, .int), (cf106, .int), (cf108, .int), (cf107, .int), (cf109, .int)]) [0, 1, 2, 3, 4, 5, 6, 7] rfl
  obtain ⟨n_6, hn_6⟩ : ∃ z : Nat, z = nf := ⟨_, rfl⟩
  obtain ⟨l2_6, el2_6⟩ : ∃ z : Int32, z = a2 := ⟨_, rfl⟩
  obtain ⟨l3_6, el3_6⟩ : ∃ z : Int32, z = a3 := ⟨_, rfl⟩
  obtain ⟨l4_6, el4_6⟩ : ∃ z : Int32, z = a4 := ⟨_, rfl⟩
  obtain ⟨l5_6, el5_6⟩ : ∃ z : Int32, z = a1 := ⟨_, rfl⟩
  obtain ⟨l6_6, el6_6⟩ : ∃ z : Int32, z = 0 := ⟨_, rfl⟩
  obtain ⟨x121_6, ex121_6⟩ : ∃ z : Int32, z = v121 := ⟨_, rfl⟩
  replace hsp : lp_vm_holder_6 nf n_6 a1 a2 a3 a4 v98 v121 f105 f102 f100 f104 f106 f108 f107 f109 nS477 fS477 l2_6 l3_6 l4_6 l5_6 l6_6 x121_6 = some (r0, w121) := by rw [hn_6, el2_6, el3_6, el4_6, el5_6, el6_6, ex121_6]; exact hsp
  replace hl : lv_has ls 11 [(6, .int l6_6), (5, .int l5_6), (0, .ref h0), (2, .int l2_6), (3, .int l3_6), (4, .int l4_6)] := by rw [el2_6, el3_6, el4_6, el5_6, el6_6]; exact hl
  obtain ⟨z6, ez6⟩ : ∃ z : List Value, z = zs := ⟨_, rfl⟩
  have hfh_6_98 : z6[98]? = some (.int v98) := by rw [ez6]; exact hf98
  have hfh_6_100 : z6[100]? = some (.ref qf100) := by rw [ez6]; exact hf100
  have hfh_6_102 : z6[102]? = some (.ref qf102) := by rw [ez6]; exact hf102
  have hfh_6_104 : z6[104]? = some (.ref qf104) := by rw [ez6]; exact hf104
  have hfh_6_105 : z6[105]? = some (.ref qf105) := by rw [ez6]; exact hf105
  have hfh_6_106 : z6[106]? = some (.ref qf106) := by rw [ez6]; exact hf106
  have hfh_6_107 : z6[107]? = some (.ref qf107) := by rw [ez6]; exact hf107
  have hfh_6_108 : z6[108]? = some (.ref qf108) := by rw [ez6]; exact hf108
  have hfh_6_109 : z6[109]? = some (.ref qf109) := by rw [ez6]; exact hf109
  have hfh_6_121 : z6[121]? = some (.int x121_6) := by rw [ez6, ex121_6]; exact hf121
  have hlh_6 : z6.length = 155 := by rw [ez6]; exact hlen
  have hrh_6 : ∀ j : Nat, j ≠ 121 → z6[j]? = zs[j]? := by rw [ez6]; exact hrs0
  replace hP : va_P (dC, dI) vwCl [(h0, .inr (13, z6)), (qf105, .inl (cf105, 8, .inl f105)), (qf102, .inl (cf102, 2048, .inl f102)), (qf100, .inl (cf100, 48000, .inl f100)), (qf104, .inl (cf104, 8, .inl f104)), (qf106, .inl (cf106, 8, .inl f106)), (qf108, .inl (cf108, 8, .inl f108)), (qf107, .inl (cf107, 96, .inl f107)), (qf109, .inl (cf109, 96, .inl f109))] H := by rw [ez6]; exact hP
  replace hD : va_D A [(h0, .inr (13, z6)), (qf105, .inl (cf105, 8, .inl f105)), (qf102, .inl (cf102, 2048, .inl f102)), (qf100, .inl (cf100, 48000, .inl f100)), (qf104, .inl (cf104, 8, .inl f104)), (qf106, .inl (cf106, 8, .inl f106)), (qf108, .inl (cf108, 8, .inl f108)), (qf107, .inl (cf107, 96, .inl f107)), (qf109, .inl (cf109, 96, .inl f109))] := by rw [ez6]; exact hD
  clear hn_6 ez6 el2_6 el3_6 el4_6 el5_6 el6_6 ex121_6
  try clear hlo
  try clear hH
  revert hsp
  revert hP
  revert hD
  revert hS
  revert hl
  revert hrh_6
  revert hlh_6
  revert hfh_6_121
  revert hfh_6_109
  revert hfh_6_108
  revert hfh_6_107
  revert hfh_6_106
  revert hfh_6_105
  revert hfh_6_104
  revert hfh_6_102
  revert hfh_6_100
  revert hfh_6_98
  revert x121_6
  revert l6_6
  revert l5_6
  revert l4_6
  revert l3_6
  revert l2_6
  revert z6
  revert ls
  revert locs
  revert H
  induction n_6 with
  | zero => intro H locs ls z6 l2_6 l3_6 l4_6 l5_6 l6_6 x121_6 hfh_6_98 hfh_6_100 hfh_6_102 hfh_6_104 hfh_6_105 hfh_6_106 hfh_6_107 hfh_6_108 hfh_6_109 hfh_6_121 hlh_6 hrh_6 hl hS hD hP hsp; unfold lp_vm_holder_6 at hsp; cases hsp
  | succ n_6 ih_6 =>
    intro H locs ls z6 l2_6 l3_6 l4_6 l5_6 l6_6 x121_6 hfh_6_98 hfh_6_100 hfh_6_102 hfh_6_104 hfh_6_105 hfh_6_106 hfh_6_107 hfh_6_108 hfh_6_109 hfh_6_121 hlh_6 hrh_6 hl hS hD hP hsp
    unfold lp_vm_holder_6 at hsp
    try dsimp only at hsp
    refine jn_use (α := Heap × List Loc × Array Slot × List Value × Int32 × Int32 × Int32 × Int32 × Int32 × Int32 × Int32 × Int32) (fun x9 => x9.1) (fun x9 => x9.2.1) (fun x9 => F0 m 55 x9.2.2.1 [.int (x9.2.2.2.2.2.2.2.2.2.2.1)]) (fun x9 => match x9 with | (H, locs, ls, z55, l2_55, l3_55, l4_55, l5_55, l6_55, l7_55, s0_55, x121_55) => lv_has ls 11 [(0, .ref h0), (2, .int l2_55), (3, .int l3_55), (4, .int l4_55), (5, .int l5_55), (6, .int l6_55), (7, .int l7_55)] ∧ va_S A s.heap H locs ∧ va_D A [(h0, .inr (13, z55)), (qf105, .inl (cf105, 8, .inl f105)), (qf102, .inl (cf102, 2048, .inl f102)), (qf100, .inl (cf100, 48000, .inl f100)), (qf104, .inl (cf104, 8, .inl f104)), (qf106, .inl (cf106, 8, .inl f106)), (qf108, .inl (cf108, 8, .inl f108)), (qf107, .inl (cf107, 96, .inl f107)), (qf109, .inl (cf109, 96, .inl f109))] ∧ va_P (dC, dI) vwCl [(h0, .inr (13, z55)), (qf105, .inl (cf105, 8, .inl f105)), (qf102, .inl (cf102, 2048, .inl f102)), (qf100, .inl (cf100, 48000, .inl f100)), (qf104, .inl (cf104, 8, .inl f104)), (qf106, .inl (cf106, 8, .inl f106)), (qf108, .inl (cf108, 8, .inl f108)), (qf107, .inl (cf107, 96, .inl f107)), (qf109, .inl (cf109, 96, .inl f109))] H ∧ z55[98]? = some (.int v98) ∧ z55[100]? = some (.ref qf100) ∧ z55[102]? = some (.ref qf102) ∧ z55[104]? = some (.ref qf104) ∧ z55[105]? = some (.ref qf105) ∧ z55[106]? = some (.ref qf106) ∧ z55[107]? = some (.ref qf107) ∧ z55[108]? = some (.ref qf108) ∧ z55[109]? = some (.ref qf109) ∧ z55[121]? = some (.int x121_55) ∧ z55.length = 155 ∧ (∀ j : Nat, j ≠ 121 → z55[j]? = zs[j]?) ∧ jn_vm_holder_55 nf a1 a2 a3 a4 v98 v121 f105 f102 f100 f104 f106 f108 f107 f109 nS477 fS477 (lp_vm_holder_6 nf n_6 a1 a2 a3 a4 v98 v121 f105 f102 f100 f104 f106 f108 f107 f109 nS477 fS477) l2_55 l3_55 l4_55 l5_55 l6_55 l7_55 s0_55 x121_55 = some (r0, w121)) ?_ ?_
    · intro x9 hJ9
      obtain ⟨H, locs, ls, z55, l2_55, l3_55, l4_55, l5_55, l6_55, l7_55, s0_55, x121_55⟩ := x9
      obtain ⟨hl, hS, hD, hP, hfh_55_98, hfh_55_100, hfh_55_102, hfh_55_104, hfh_55_105, hfh_55_106, hfh_55_107, hfh_55_108, hfh_55_109, hfh_55_121, hlh_55, hrh_55, hsp⟩ := hJ9
      replace hl : lv_has ls 11 [(0, .ref h0), (2, .int l2_55), (3, .int l3_55), (4, .int l4_55), (5, .int l5_55), (6, .int l6_55), (7, .int l7_55)] := hl
      replace hS : va_S A s.heap H locs := hS
      replace hD : va_D A [(h0, .inr (13, z55)), (qf105, .inl (cf105, 8, .inl f105)), (qf102, .inl (cf102, 2048, .inl f102)), (qf100, .inl (cf100, 48000, .inl f100)), (qf104, .inl (cf104, 8, .inl f104)), (qf106, .inl (cf106, 8, .inl f106)), (qf108, .inl (cf108, 8, .inl f108)), (qf107, .inl (cf107, 96, .inl f107)), (qf109, .inl (cf109, 96, .inl f109))] := hD
      replace hP : va_P (dC, dI) vwCl [(h0, .inr (13, z55)), (qf105, .inl (cf105, 8, .inl f105)), (qf102, .inl (cf102, 2048, .inl f102)), (qf100, .inl (cf100, 48000, .inl f100)), (qf104, .inl (cf104, 8, .inl f104)), (qf106, .inl (cf106, 8, .inl f106)), (qf108, .inl (cf108, 8, .inl f108)), (qf107, .inl (cf107, 96, .inl f107)), (qf109, .inl (cf109, 96, .inl f109))] H := hP
      replace hsp : jn_vm_holder_55 nf a1 a2 a3 a4 v98 v121 f105 f102 f100 f104 f106 f108 f107 f109 nS477 fS477 (lp_vm_holder_6 nf n_6 a1 a2 a3 a4 v98 v121 f105 f102 f100 f104 f106 f108 f107 f109 nS477 fS477) l2_55 l3_55 l4_55 l5_55 l6_55 l7_55 s0_55 x121_55 = some (r0, w121) := hsp
      show W _ _ _ _ _ _ _ _ _ _ H locs _ _ _ (F0 m 55 ls [.int s0_55])
      unfold jn_vm_holder_55 at hsp
      try dsimp only at hsp
      refine lv_istore (lv' := [(8, .int s0_55), (0, .ref h0), (2, .int l2_55), (3, .int l3_55), (4, .int l4_55), (5, .int l5_55), (6, .int l6_55), (7, .int l7_55)]) hx hb dX13_holder_55 hl (by decide) rfl (fun ls hl => ?_)
      refine lv_iconst (v := 0) hx hb dX13_holder_57 (by decide) ?_
      refine lv_istore (lv' := [(9, .int 0), (8, .int s0_55), (0, .ref h0), (2, .int l2_55), (3, .int l3_55), (4, .int l4_55), (5, .int l5_55), (6, .int l6_55), (7, .int l7_55)]) hx hb dX13_holder_58 hl (by decide) rfl (fun ls hl => ?_)
      replace hl : lv_has ls 11 [(9, .int 0), (8, .int s0_55), (0, .ref h0), (2, .int l2_55), (3, .int l3_55), (4, .int l4_55), (5, .int l5_55), (6, .int l6_55), (7, .int l7_55)] := lv_sub hl [0, 1, 2, 3, 4, 5, 6, 7, 8] rfl
      replace hP := hP.sub (ws' := [(h0, .inr (13, z55)), (qf105, .inl (cf105, 8, .inl f105)), (qf102, .inl (cf102, 2048, .inl f102)), (qf100, .inl (cf100, 48000, .inl f100)), (qf104, .inl (cf104, 8, .inl f104)), (qf106, .inl (cf106, 8, .inl f106)), (qf108, .inl (cf108, 8, .inl f108)), (qf107, .inl (cf107, 96, .inl f107)), (qf109, .inl (cf109, 96, .inl f109))]) [0, 1, 2, 3, 4, 5, 6, 7, 8] rfl
      replace hD := hD.sub (ws' := [(h0, .inr (13, z55)), (qf105, .inl (cf105, 8, .inl f105)), (qf102, .inl (cf102, 2048, .inl f102)), (qf100, .inl (cf100, 48000, .inl f100)), (qf104, .inl (cf104, 8, .inl f104)), (qf106, .inl (cf106, 8, .inl f106)), (qf108, .inl (cf108, 8, .inl f108)), (qf107, .inl (cf107, 96, .inl f107)), (qf109, .inl (cf109, 96, .inl f109))]) [0, 1, 2, 3, 4, 5, 6, 7, 8] (by decide) rfl
      replace hK := hK.sub (tys' := [(cf105, .int), (cf102, .int), (cf100, .int), (cf104, .int), (cf106, .int), (cf108, .int), (cf107, .int), (cf109, .int)]) [0, 1, 2, 3, 4, 5, 6, 7] rfl
      obtain ⟨n_60, hn_60⟩ : ∃ z : Nat, z = nf := ⟨_, rfl⟩
      obtain ⟨l2_60, el2_60⟩ : ∃ z : Int32, z = l2_55 := ⟨_, rfl⟩
      obtain ⟨l3_60, el3_60⟩ : ∃ z : Int32, z = l3_55 := ⟨_, rfl⟩
      obtain ⟨l4_60, el4_60⟩ : ∃ z : Int32, z = l4_55 := ⟨_, rfl⟩
      obtain ⟨l5_60, el5_60⟩ : ∃ z : Int32, z = l5_55 := ⟨_, rfl⟩
      obtain ⟨l6_60, el6_60⟩ : ∃ z : Int32, z = l6_55 := ⟨_, rfl⟩
      obtain ⟨l7_60, el7_60⟩ : ∃ z : Int32, z = l7_55 := ⟨_, rfl⟩
      obtain ⟨l8_60, el8_60⟩ : ∃ z : Int32, z = s0_55 := ⟨_, rfl⟩
      obtain ⟨l9_60, el9_60⟩ : ∃ z : Int32, z = 0 := ⟨_, rfl⟩
      obtain ⟨x121_60, ex121_60⟩ : ∃ z : Int32, z = x121_55 := ⟨_, rfl⟩
      replace hsp : lp_vm_holder_60 nf n_60 a1 a2 a3 a4 v98 v121 f105 f102 f100 f104 f106 f108 f107 f109 nS477 fS477 (lp_vm_holder_6 nf n_6 a1 a2 a3 a4 v98 v121 f105 f102 f100 f104 f106 f108 f107 f109 nS477 fS477) l2_60 l3_60 l4_60 l5_60 l6_60 l7_60 l8_60 l9_60 x121_60 = some (r0, w121) := by rw [hn_60, el2_60, el3_60, el4_60, el5_60, el6_60, el7_60, el8_60, el9_60, ex121_60]; exact hsp
      replace hl : lv_has ls 11 [(9, .int l9_60), (8, .int l8_60), (0, .ref h0), (2, .int l2_60), (3, .int l3_60), (4, .int l4_60), (5, .int l5_60), (6, .int l6_60), (7, .int l7_60)] := by rw [el2_60, el3_60, el4_60, el5_60, el6_60, el7_60, el8_60, el9_60]; exact hl
      obtain ⟨z60, ez60⟩ : ∃ z : List Value, z = z55 := ⟨_, rfl⟩
      have hfh_60_98 : z60[98]? = some (.int v98) := by rw [ez60]; exact hfh_55_98
      have hfh_60_100 : z60[100]? = some (.ref qf100) := by rw [ez60]; exact hfh_55_100
      have hfh_60_102 : z60[102]? = some (.ref qf102) := by rw [ez60]; exact hfh_55_102
      have hfh_60_104 : z60[104]? = some (.ref qf104) := by rw [ez60]; exact hfh_55_104
      have hfh_60_105 : z60[105]? = some (.ref qf105) := by rw [ez60]; exact hfh_55_105
      have hfh_60_106 : z60[106]? = some (.ref qf106) := by rw [ez60]; exact hfh_55_106
      have hfh_60_107 : z60[107]? = some (.ref qf107) := by rw [ez60]; exact hfh_55_107
      have hfh_60_108 : z60[108]? = some (.ref qf108) := by rw [ez60]; exact hfh_55_108
      have hfh_60_109 : z60[109]? = some (.ref qf109) := by rw [ez60]; exact hfh_55_109
      have hfh_60_121 : z60[121]? = some (.int x121_60) := by rw [ez60, ex121_60]; exact hfh_55_121
      have hlh_60 : z60.length = 155 := by rw [ez60]; exact hlh_55
      have hrh_60 : ∀ j : Nat, j ≠ 121 → z60[j]? = zs[j]? := by rw [ez60]; exact hrh_55
      replace hP : va_P (dC, dI) vwCl [(h0, .inr (13, z60)), (qf105, .inl (cf105, 8, .inl f105)), (qf102, .inl (cf102, 2048, .inl f102)), (qf100, .inl (cf100, 48000, .inl f100)), (qf104, .inl (cf104, 8, .inl f104)), (qf106, .inl (cf106, 8, .inl f106)), (qf108, .inl (cf108, 8, .inl f108)), (qf107, .inl (cf107, 96, .inl f107)), (qf109, .inl (cf109, 96, .inl f109))] H := by rw [ez60]; exact hP
      replace hD : va_D A [(h0, .inr (13, z60)), (qf105, .inl (cf105, 8, .inl f105)), (qf102, .inl (cf102, 2048, .inl f102)), (qf100, .inl (cf100, 48000, .inl f100)), (qf104, .inl (cf104, 8, .inl f104)), (qf106, .inl (cf106, 8, .inl f106)), (qf108, .inl (cf108, 8, .inl f108)), (qf107, .inl (cf107, 96, .inl f107)), (qf109, .inl (cf109, 96, .inl f109))] := by rw [ez60]; exact hD
      clear hn_60 ez60 el2_60 el3_60 el4_60 el5_60 el6_60 el7_60 el8_60 el9_60 ex121_60
      try clear hlo
      try clear hH
      revert hsp
      revert hP
      revert hD
      revert hS
      revert hl
      revert hrh_60
      revert hlh_60
      revert hfh_60_121
      revert hfh_60_109
      revert hfh_60_108
      revert hfh_60_107
      revert hfh_60_106
      revert hfh_60_105
      revert hfh_60_104
      revert hfh_60_102
      revert hfh_60_100
      revert hfh_60_98
      revert x121_60
      revert l9_60
      revert l8_60
      revert l7_60
      revert l6_60
      revert l5_60
      revert l4_60
      revert l3_60
      revert l2_60
      revert z60
      revert ls
      revert locs
      revert H
      induction n_60 with
      | zero => intro H locs ls z60 l2_60 l3_60 l4_60 l5_60 l6_60 l7_60 l8_60 l9_60 x121_60 hfh_60_98 hfh_60_100 hfh_60_102 hfh_60_104 hfh_60_105 hfh_60_106 hfh_60_107 hfh_60_108 hfh_60_109 hfh_60_121 hlh_60 hrh_60 hl hS hD hP hsp; unfold lp_vm_holder_60 at hsp; cases hsp
      | succ n_60 ih_60 =>
        intro H locs ls z60 l2_60 l3_60 l4_60 l5_60 l6_60 l7_60 l8_60 l9_60 x121_60 hfh_60_98 hfh_60_100 hfh_60_102 hfh_60_104 hfh_60_105 hfh_60_106 hfh_60_107 hfh_60_108 hfh_60_109 hfh_60_121 hlh_60 hrh_60 hl hS hD hP hsp
        unfold lp_vm_holder_60 at hsp
        try dsimp only at hsp
        refine jn_use (α := Heap × List Loc × Array Slot × List Value × Int32 × Int32 × Int32 × Int32 × Int32 × Int32 × Int32 × Int32 × Int32 × Int32) (fun x9 => x9.1) (fun x9 => x9.2.1) (fun x9 => F0 m 115 x9.2.2.1 [.int (x9.2.2.2.2.2.2.2.2.2.2.2.2.1)]) (fun x9 => match x9 with | (H, locs, ls, z115, l2_115, l3_115, l4_115, l5_115, l6_115, l7_115, l8_115, l9_115, s0_115, x121_115) => lv_has ls 11 [(0, .ref h0), (2, .int l2_115), (3, .int l3_115), (4, .int l4_115), (5, .int l5_115), (6, .int l6_115), (7, .int l7_115), (8, .int l8_115), (9, .int l9_115)] ∧ va_S A s.heap H locs ∧ va_D A [(h0, .inr (13, z115)), (qf105, .inl (cf105, 8, .inl f105)), (qf102, .inl (cf102, 2048, .inl f102)), (qf100, .inl (cf100, 48000, .inl f100)), (qf104, .inl (cf104, 8, .inl f104)), (qf106, .inl (cf106, 8, .inl f106)), (qf108, .inl (cf108, 8, .inl f108)), (qf107, .inl (cf107, 96, .inl f107)), (qf109, .inl (cf109, 96, .inl f109))] ∧ va_P (dC, dI) vwCl [(h0, .inr (13, z115)), (qf105, .inl (cf105, 8, .inl f105)), (qf102, .inl (cf102, 2048, .inl f102)), (qf100, .inl (cf100, 48000, .inl f100)), (qf104, .inl (cf104, 8, .inl f104)), (qf106, .inl (cf106, 8, .inl f106)), (qf108, .inl (cf108, 8, .inl f108)), (qf107, .inl (cf107, 96, .inl f107)), (qf109, .inl (cf109, 96, .inl f109))] H ∧ z115[98]? = some (.int v98) ∧ z115[100]? = some (.ref qf100) ∧ z115[102]? = some (.ref qf102) ∧ z115[104]? = some (.ref qf104) ∧ z115[105]? = some (.ref qf105) ∧ z115[106]? = some (.ref qf106) ∧ z115[107]? = some (.ref qf107) ∧ z115[108]? = some (.ref qf108) ∧ z115[109]? = some (.ref qf109) ∧ z115[121]? = some (.int x121_115) ∧ z115.length = 155 ∧ (∀ j : Nat, j ≠ 121 → z115[j]? = zs[j]?) ∧ jn_vm_holder_115 nf a1 a2 a3 a4 v98 v121 f105 f102 f100 f104 f106 f108 f107 f109 nS477 fS477 (lp_vm_holder_6 nf n_6 a1 a2 a3 a4 v98 v121 f105 f102 f100 f104 f106 f108 f107 f109 nS477 fS477) (lp_vm_holder_60 nf n_60 a1 a2 a3 a4 v98 v121 f105 f102 f100 f104 f106 f108 f107 f109 nS477 fS477 (lp_vm_holder_6 nf n_6 a1 a2 a3 a4 v98 v121 f105 f102 f100 f104 f106 f108 f107 f109 nS477 fS477)) l2_115 l3_115 l4_115 l5_115 l6_115 l7_115 l8_115 l9_115 s0_115 x121_115 = some (r0, w121)) ?_ ?_
        · intro x9 hJ9
          obtain ⟨H, locs, ls, z115, l2_115, l3_115, l4_115, l5_115, l6_115, l7_115, l8_115, l9_115, s0_115, x121_115⟩ := x9
          obtain ⟨hl, hS, hD, hP, hfh_115_98, hfh_115_100, hfh_115_102, hfh_115_104, hfh_115_105, hfh_115_106, hfh_115_107, hfh_115_108, hfh_115_109, hfh_115_121, hlh_115, hrh_115, hsp⟩ := hJ9
          replace hl : lv_has ls 11 [(0, .ref h0), (2, .int l2_115), (3, .int l3_115), (4, .int l4_115), (5, .int l5_115), (6, .int l6_115), (7, .int l7_115), (8, .int l8_115), (9, .int l9_115)] := hl
          replace hS : va_S A s.heap H locs := hS
          replace hD : va_D A [(h0, .inr (13, z115)), (qf105, .inl (cf105, 8, .inl f105)), (qf102, .inl (cf102, 2048, .inl f102)), (qf100, .inl (cf100, 48000, .inl f100)), (qf104, .inl (cf104, 8, .inl f104)), (qf106, .inl (cf106, 8, .inl f106)), (qf108, .inl (cf108, 8, .inl f108)), (qf107, .inl (cf107, 96, .inl f107)), (qf109, .inl (cf109, 96, .inl f109))] := hD
          replace hP : va_P (dC, dI) vwCl [(h0, .inr (13, z115)), (qf105, .inl (cf105, 8, .inl f105)), (qf102, .inl (cf102, 2048, .inl f102)), (qf100, .inl (cf100, 48000, .inl f100)), (qf104, .inl (cf104, 8, .inl f104)), (qf106, .inl (cf106, 8, .inl f106)), (qf108, .inl (cf108, 8, .inl f108)), (qf107, .inl (cf107, 96, .inl f107)), (qf109, .inl (cf109, 96, .inl f109))] H := hP
          replace hsp : jn_vm_holder_115 nf a1 a2 a3 a4 v98 v121 f105 f102 f100 f104 f106 f108 f107 f109 nS477 fS477 (lp_vm_holder_6 nf n_6 a1 a2 a3 a4 v98 v121 f105 f102 f100 f104 f106 f108 f107 f109 nS477 fS477) (lp_vm_holder_60 nf n_60 a1 a2 a3 a4 v98 v121 f105 f102 f100 f104 f106 f108 f107 f109 nS477 fS477 (lp_vm_holder_6 nf n_6 a1 a2 a3 a4 v98 v121 f105 f102 f100 f104 f106 f108 f107 f109 nS477 fS477)) l2_115 l3_115 l4_115 l5_115 l6_115 l7_115 l8_115 l9_115 s0_115 x121_115 = some (r0, w121) := hsp
          show W _ _ _ _ _ _ _ _ _ _ H locs _ _ _ (F0 m 115 ls [.int s0_115])
          unfold jn_vm_holder_115 at hsp
          try dsimp only at hsp
          refine lv_istore (lv' := [(10, .int s0_115), (0, .ref h0), (2, .int l2_115), (3, .int l3_115), (4, .int l4_115), (5, .int l5_115), (6, .int l6_115), (7, .int l7_115), (8, .int l8_115), (9, .int l9_115)]) hx hb dX13_holder_115 hl (by decide) rfl (fun ls hl => ?_)
          refine lv_aload_n hx hb dX13_holder_117 rfl (lv_at hl 1 rfl) ?_
          refine lv_iload hx hb dX13_holder_118 (lv_at hl 7 rfl) ?_
          refine lv_iload hx hb dX13_holder_120 (lv_at hl 0 rfl) ?_
          refine lv_iload_n hx hb dX13_holder_122 rfl (lv_at hl 2 rfl) ?_
          refine lv_iload_n hx hb dX13_holder_123 rfl (lv_at hl 3 rfl) ?_
          obtain ⟨u5_0, hu_5, hsp⟩ := ox_bind hsp
          try dsimp only at hsp
          have hPc := hP.sub (ws' := [(h0, .inr (13, z115)), (qf102, .inl (cf102, 2048, .inl f102)), (qf100, .inl (cf100, 48000, .inl f100))]) [0, 2, 3] rfl
          have hDc := hD.sub (ws' := [(h0, .inr (13, z115)), (qf102, .inl (cf102, 2048, .inl f102)), (qf100, .inl (cf100, 48000, .inl f100))]) [0, 2, 3] (by decide) rfl
          have hKc := hK.sub (tys' := [(cf102, .int), (cf100, .int)]) [1, 2] rfl
          have hFc := va_free (wc := [(h0, .inr (13, z115)), (qf102, .inl (cf102, 2048, .inl f102)), (qf100, .inl (cf100, 48000, .inl f100))]) hD hS hA [0, 2, 3] rfl
          refine va_calli (va_runV (As := [.int l7_115, .int s0_115, .int l2_115, .int l3_115]) (rest := []) ⟨hx, hb, hml, hown, hts⟩ (vm_sameText l dC dI H.size h0 z115 l7_115 s0_115 l2_115 l3_115 qf100 qf102 cf102 f102 cf100 f100 nf u5_0 hlh_115 hfh_115_100 hfh_115_102 hu_5) (cwV 4 hts gv_h9_102 rfl rfl rfl (by decide +kernel) ⟨Nat.le_of_ble_eq_true rfl, Nat.le_of_ble_eq_true rfl⟩) ⟨fun a U g mk q => by obtain ⟨q0, q1, qP, qK, qD⟩ := q; exact ⟨q0, q1, qP, va_K.moved (u := U) (U := U.calling g mk a) (Vm.Alike.refl U.vm) qK, qD⟩, va_recv hKc hPc (ci := 13) (q0 := 0) rfl rfl, fun U hU hW => ⟨rfl, by rw [hU], by rw [hU]; exact hPc, va_K.moved hW.alike hKc, hDc.weaken (fun _ _ _ _ => trivial)⟩⟩ rfl rfl hl.1 rfl (lv_room (Nat.le_of_ble_eq_true rfl)) dX13_holder_124 ⟨Nat.le_of_ble_eq_true rfl, Nat.le_of_ble_eq_true rfl⟩) hS (fun q _ h => hFc q h) hFc ?_
          clear hS
          intro r_15 u t H1 locs ht hvm hw hB hz1 hk1 hS
          obtain ⟨z_5, rfl⟩ : ∃ z, z = u := ⟨_, rfl⟩
          obtain ⟨hP1, hK1, hD1⟩ := hB
          rw [ht] at hP1
          have hK1 := va_K.moved hvm.symm hK1
          try dsimp only at hw
          have hPD := va_join (wr := [(qf105, .inl (cf105, 8, .inl f105)), (qf104, .inl (cf104, 8, .inl f104)), (qf106, .inl (cf106, 8, .inl f106)), (qf108, .inl (cf108, 8, .inl f108)), (qf107, .inl (cf107, 96, .inl f107)), (qf109, .inl (cf109, 96, .inl f109))]) (w1 := [(h0, .inr (13, z_5)), (qf102, .inl (cf102, 2048, .inl f102)), (qf100, .inl (cf100, 48000, .inl f100))]) hP hD [0, 2, 3] [1, 4, 5, 6, 7, 8] rfl rfl (by decide) (by decide) hk1 hFc hP1 hD1
          clear hP hD
          obtain ⟨hP, hD⟩ := hPD
          replace hK := (hK.sub (tys' := [(cf105, .int), (cf104, .int), (cf106, .int), (cf108, .int), (cf107, .int), (cf109, .int)]) [0, 3, 4, 5, 6, 7] rfl).app hK1
          clear hPc hDc hKc hFc hP1 hK1 hD1 hz1 hk1 ht hvm
          generalize H1 = H at hP hS ⊢
          replace hP : va_P (dC, dI) vwCl [(qf105, .inl (cf105, 8, .inl f105)), (qf104, .inl (cf104, 8, .inl f104)), (qf106, .inl (cf106, 8, .inl f106)), (qf108, .inl (cf108, 8, .inl f108)), (qf107, .inl (cf107, 96, .inl f107)), (qf109, .inl (cf109, 96, .inl f109)), (h0, .inr (13, z_5)), (qf102, .inl (cf102, 2048, .inl f102)), (qf100, .inl (cf100, 48000, .inl f100))] H := hP
          replace hD : va_D A [(qf105, .inl (cf105, 8, .inl f105)), (qf104, .inl (cf104, 8, .inl f104)), (qf106, .inl (cf106, 8, .inl f106)), (qf108, .inl (cf108, 8, .inl f108)), (qf107, .inl (cf107, 96, .inl f107)), (qf109, .inl (cf109, 96, .inl f109)), (h0, .inr (13, z_5)), (qf102, .inl (cf102, 2048, .inl f102)), (qf100, .inl (cf100, 48000, .inl f100))] := hD
          replace hK : va_K (dC, dI) vwCl [(cf105, .int), (cf104, .int), (cf106, .int), (cf108, .int), (cf107, .int), (cf109, .int), (cf102, .int), (cf100, .int)] s := hK
          obtain ⟨hwa_5, hln_5, hre_5⟩ := hw
          have hfk_5_98 : z_5[98]? = some (.int v98) := (hre_5 98 ).trans (hfh_115_98)
          have hfk_5_100 : z_5[100]? = some (.ref qf100) := (hre_5 100 ).trans (hfh_115_100)
          have hfk_5_102 : z_5[102]? = some (.ref qf102) := (hre_5 102 ).trans (hfh_115_102)
          have hfk_5_104 : z_5[104]? = some (.ref qf104) := (hre_5 104 ).trans (hfh_115_104)
          have hfk_5_105 : z_5[105]? = some (.ref qf105) := (hre_5 105 ).trans (hfh_115_105)
          have hfk_5_106 : z_5[106]? = some (.ref qf106) := (hre_5 106 ).trans (hfh_115_106)
          have hfk_5_107 : z_5[107]? = some (.ref qf107) := (hre_5 107 ).trans (hfh_115_107)
          have hfk_5_108 : z_5[108]? = some (.ref qf108) := (hre_5 108 ).trans (hfh_115_108)
          have hfk_5_109 : z_5[109]? = some (.ref qf109) := (hre_5 109 ).trans (hfh_115_109)
          have hfk_5_121 : z_5[121]? = some (.int x121_115) := (hre_5 121 ).trans (hfh_115_121)
          have hrq_5 : ∀ j : Nat, j ≠ 121 → z_5[j]? = zs[j]? := fun j g121 => (hre_5 j ).trans (hrh_115 j g121)
          obtain ⟨rfl, hz_5⟩ := hwa_5
          rcases hz_5 with rfl | rfl
          · rw [if_pos rfl] at hsp
            refine lv_if_ne (tgt := 133) hx hb dX13_holder_127 (by decide) (fun c_16 => (show False by revert c_16; decide).elim) (fun c_16 => ?_)
            refine lv_goto (tgt := 142) hx hb dX13_holder_130 (by decide) ?_
            refine lv_iinc (v := (l9_115 + 1)) (lv' := [(9, .int (l9_115 + 1)), (10, .int s0_115), (0, .ref h0), (2, .int l2_115), (3, .int l3_115), (4, .int l4_115), (5, .int l5_115), (6, .int l6_115), (7, .int l7_115), (8, .int l8_115)]) hx hb dX13_holder_142 hl (k := 9) rfl rfl (by decide) rfl (fun ls hl => ?_)
            refine lv_goto (tgt := 60) hx hb dX13_holder_145 (by decide) ?_
            exact ih_60 H locs ls z_5 l2_115 l3_115 l4_115 l5_115 l6_115 l7_115 l8_115 (l9_115 + 1) x121_115 (hfk_5_98) (hfk_5_100) (hfk_5_102) (hfk_5_104) (hfk_5_105) (hfk_5_106) (hfk_5_107) (hfk_5_108) (hfk_5_109) (hfk_5_121) hln_5 hrq_5 (lv_sub hl [0, 9, 2, 3, 4, 5, 6, 7, 8] rfl) hS (hD.sub (ws' := [(h0, .inr (13, z_5)), (qf105, .inl (cf105, 8, .inl f105)), (qf102, .inl (cf102, 2048, .inl f102)), (qf100, .inl (cf100, 48000, .inl f100)), (qf104, .inl (cf104, 8, .inl f104)), (qf106, .inl (cf106, 8, .inl f106)), (qf108, .inl (cf108, 8, .inl f108)), (qf107, .inl (cf107, 96, .inl f107)), (qf109, .inl (cf109, 96, .inl f109))]) [6, 0, 7, 8, 1, 2, 3, 4, 5] (by decide) rfl) (hP.sub (ws' := [(h0, .inr (13, z_5)), (qf105, .inl (cf105, 8, .inl f105)), (qf102, .inl (cf102, 2048, .inl f102)), (qf100, .inl (cf100, 48000, .inl f100)), (qf104, .inl (cf104, 8, .inl f104)), (qf106, .inl (cf106, 8, .inl f106)), (qf108, .inl (cf108, 8, .inl f108)), (qf107, .inl (cf107, 96, .inl f107)), (qf109, .inl (cf109, 96, .inl f109))]) [6, 0, 7, 8, 1, 2, 3, 4, 5] rfl) hsp
          · rw [if_neg (by decide)] at hsp
            refine lv_if_ne (tgt := 133) hx hb dX13_holder_127 (by decide) (fun c_17 => ?_) (fun c_17 => (show False by revert c_17; decide).elim)
            refine lv_aload_n hx hb dX13_holder_133 rfl (lv_at hl 1 rfl) ?_
            refine lv_iload hx hb dX13_holder_134 (lv_at hl 9 rfl) ?_
            refine va_put (D := (dC, dI)) (ci := 13) (v := .int l9_115) (ty := .int) (C := RX13) (T := TX13) (N := 155) hx hb hts uV_h9_X13 tyX13 tyX13_ok nmX13 hown hK hP hD hS 6 rfl rfl 121 (by decide) (hts (.fieldLink RX13 898 "ClassMillModel" "found" "I") mw_h9_509) (fun _ h9 => h9) rfl (by decide +kernel) rfl rfl (by rw [hln_5]; decide) dX13_holder_136 ?_
            clear hP hD hS
            intro H locs hP hD hS
            obtain ⟨fs_18, efs_18⟩ : ∃ zf : List Value, zf = z_5.set 121 (.int l9_115) := ⟨_, rfl⟩
            rw [← efs_18] at hP hD
            have hlfs_18 : fs_18.length = 155 := by rw [efs_18, List.length_set]; exact hln_5
            have hfs_18_98 : fs_18[98]? = some (.int v98) := by rw [efs_18, List.getElem?_set_ne (by decide)]; exact hfk_5_98
            have hfs_18_100 : fs_18[100]? = some (.ref qf100) := by rw [efs_18, List.getElem?_set_ne (by decide)]; exact hfk_5_100
            have hfs_18_102 : fs_18[102]? = some (.ref qf102) := by rw [efs_18, List.getElem?_set_ne (by decide)]; exact hfk_5_102
            have hfs_18_104 : fs_18[104]? = some (.ref qf104) := by rw [efs_18, List.getElem?_set_ne (by decide)]; exact hfk_5_104
            have hfs_18_105 : fs_18[105]? = some (.ref qf105) := by rw [efs_18, List.getElem?_set_ne (by decide)]; exact hfk_5_105
            have hfs_18_106 : fs_18[106]? = some (.ref qf106) := by rw [efs_18, List.getElem?_set_ne (by decide)]; exact hfk_5_106
            have hfs_18_107 : fs_18[107]? = some (.ref qf107) := by rw [efs_18, List.getElem?_set_ne (by decide)]; exact hfk_5_107
            have hfs_18_108 : fs_18[108]? = some (.ref qf108) := by rw [efs_18, List.getElem?_set_ne (by decide)]; exact hfk_5_108
            have hfs_18_109 : fs_18[109]? = some (.ref qf109) := by rw [efs_18, List.getElem?_set_ne (by decide)]; exact hfk_5_109
            have hfs_18_121 : fs_18[121]? = some (.int l9_115) := by rw [efs_18, List.getElem?_set_self (by rw [hln_5]; decide)]
            replace hP : va_P (dC, dI) vwCl [(qf105, .inl (cf105, 8, .inl f105)), (qf104, .inl (cf104, 8, .inl f104)), (qf106, .inl (cf106, 8, .inl f106)), (qf108, .inl (cf108, 8, .inl f108)), (qf107, .inl (cf107, 96, .inl f107)), (qf109, .inl (cf109, 96, .inl f109)), (h0, .inr (13, fs_18)), (qf102, .inl (cf102, 2048, .inl f102)), (qf100, .inl (cf100, 48000, .inl f100))] H := hP
            replace hD : va_D A [(qf105, .inl (cf105, 8, .inl f105)), (qf104, .inl (cf104, 8, .inl f104)), (qf106, .inl (cf106, 8, .inl f106)), (qf108, .inl (cf108, 8, .inl f108)), (qf107, .inl (cf107, 96, .inl f107)), (qf109, .inl (cf109, 96, .inl f109)), (h0, .inr (13, fs_18)), (qf102, .inl (cf102, 2048, .inl f102)), (qf100, .inl (cf100, 48000, .inl f100))] := hD
            have hrs_19 : ∀ j : Nat, j ≠ 121 → fs_18[j]? = zs[j]? := fun j g121 => ((congrArg (fun z : List Value => z[j]?) efs_18).trans (List.getElem?_set_ne (Ne.symm g121))).trans (hrq_5 j g121)
            refine lv_iload hx hb dX13_holder_139 (lv_at hl 5 rfl) ?_
            have hr0 := Option.some.inj hsp
            clear hsp
            obtain ⟨hq0, hr1⟩ := Prod.mk.inj hr0
            clear hr0
            subst hq0
            subst hr1
            have hP9 := hP.sub (ws' := [(h0, .inr (13, fs_18)), (qf105, .inl (cf105, 8, .inl f105)), (qf102, .inl (cf102, 2048, .inl f102)), (qf100, .inl (cf100, 48000, .inl f100)), (qf104, .inl (cf104, 8, .inl f104)), (qf106, .inl (cf106, 8, .inl f106)), (qf108, .inl (cf108, 8, .inl f108)), (qf107, .inl (cf107, 96, .inl f107)), (qf109, .inl (cf109, 96, .inl f109))]) [6, 0, 7, 8, 1, 2, 3, 4, 5] rfl
            have hD9 := hD.sub (ws' := [(h0, .inr (13, fs_18)), (qf105, .inl (cf105, 8, .inl f105)), (qf102, .inl (cf102, 2048, .inl f102)), (qf100, .inl (cf100, 48000, .inl f100)), (qf104, .inl (cf104, 8, .inl f104)), (qf106, .inl (cf106, 8, .inl f106)), (qf108, .inl (cf108, 8, .inl f108)), (qf107, .inl (cf107, 96, .inl f107)), (qf109, .inl (cf109, 96, .inl f109))]) [6, 0, 7, 8, 1, 2, 3, 4, 5] (by decide) rfl
            have hK9 := hK.sub (tys' := [(cf105, .int), (cf102, .int), (cf100, .int), (cf104, .int), (cf106, .int), (cf108, .int), (cf107, .int), (cf109, .int)]) [0, 6, 7, 1, 2, 3, 4, 5] rfl
            exact W.iret hx hb hr (fun t ht hW => ⟨⟨(l5_115), (fs_18), rfl, ⟨rfl, hlfs_18, hrs_19, hfs_18_121⟩, by rw [ht]; exact hP9, va_K.moved hW.alike hK9, hD9⟩, hS.F ht⟩) hS.2.2 dX13_holder_141
        intro hj_115
        refine lv_iload hx hb dX13_holder_60 (lv_at hl 0 rfl) ?_
        refine lv_iload hx hb dX13_holder_62 (lv_at hl 1 rfl) ?_
        refine lv_icmp_ge (tgt := 148) hx hb dX13_holder_64 (by decide) (fun c_8 => ?_) (fun c_8 => ?_)
        · rw [if_pos c_8] at hsp
          refine lv_aload_n hx hb dX13_holder_148 rfl (lv_at hl 2 rfl) ?_
          refine lv_iload hx hb dX13_holder_149 (lv_at hl 6 rfl) ?_
          obtain ⟨u2_0, hu_2, hsp⟩ := ox_bind hsp
          try dsimp only at hsp
          have hPc := hP.sub (ws' := [(h0, .inr (13, z60)), (qf105, .inl (cf105, 8, .inl f105)), (qf102, .inl (cf102, 2048, .inl f102)), (qf100, .inl (cf100, 48000, .inl f100)), (qf104, .inl (cf104, 8, .inl f104))]) [0, 1, 2, 3, 4] rfl
          have hDc := hD.sub (ws' := [(h0, .inr (13, z60)), (qf105, .inl (cf105, 8, .inl f105)), (qf102, .inl (cf102, 2048, .inl f102)), (qf100, .inl (cf100, 48000, .inl f100)), (qf104, .inl (cf104, 8, .inl f104))]) [0, 1, 2, 3, 4] (by decide) rfl
          have hKc := hK.sub (tys' := [(cf105, .int), (cf102, .int), (cf100, .int), (cf104, .int)]) [0, 1, 2, 3] rfl
          have hFc := va_free (wc := [(h0, .inr (13, z60)), (qf105, .inl (cf105, 8, .inl f105)), (qf102, .inl (cf102, 2048, .inl f102)), (qf100, .inl (cf100, 48000, .inl f100)), (qf104, .inl (cf104, 8, .inl f104))]) hD hS hA [0, 1, 2, 3, 4] rfl
          refine va_calli (va_runV (As := [.int l5_60]) (rest := []) ⟨hx, hb, hml, hown, hts⟩ (vm_superOf l dC dI H.size h0 z60 l5_60 v98 qf100 qf102 qf104 qf105 cf105 f105 cf102 f102 cf100 f100 cf104 f104 nS477 fS477 hS477 qS477 tS477 nf u2_0 hlh_60 hfh_60_98 hfh_60_100 hfh_60_102 hfh_60_104 hfh_60_105 hu_2) (cwV 1 hts gv_h9_98 rfl rfl rfl (by decide +kernel) ⟨Nat.le_of_ble_eq_true rfl, Nat.le_of_ble_eq_true rfl⟩) ⟨fun a U g mk q => by obtain ⟨q0, q1, qP, qK, qD, qhZWS477, qhZRS477⟩ := q; exact ⟨q0, q1, qP, va_K.moved (u := U) (U := U.calling g mk a) (Vm.Alike.refl U.vm) qK, qD, pz_W.moved (u := U) (U := U.calling g mk a) (Vm.Alike.refl U.vm) qhZWS477, vk_R.same rfl qhZRS477⟩, va_recv hKc hPc (ci := 13) (q0 := 0) rfl rfl, fun U hU hW => ⟨rfl, by rw [hU], by rw [hU]; exact hPc, va_K.moved hW.alike hKc, hDc.weaken (fun _ _ _ _ => trivial), by rw [hU]; exact ((pz_W.moved hW.alike hZWS477).kept hS.2.1).narrow hFc, vk_R.warm hW hZRS477⟩⟩ rfl rfl hl.1 rfl (lv_room (Nat.le_of_ble_eq_true rfl)) dX13_holder_151 ⟨Nat.le_of_ble_eq_true rfl, Nat.le_of_ble_eq_true rfl⟩) hS (fun q _ h => hFc q h) hFc ?_
          clear hS
          intro r_9 u t H1 locs ht hvm hw hB hz1 hk1 hS
          obtain ⟨z_2, rfl⟩ : ∃ z, z = u := ⟨_, rfl⟩
          obtain ⟨hP1, hK1, hD1⟩ := hB
          rw [ht] at hP1
          have hK1 := va_K.moved hvm.symm hK1
          try dsimp only at hw
          have hPD := va_join (wr := [(qf106, .inl (cf106, 8, .inl f106)), (qf108, .inl (cf108, 8, .inl f108)), (qf107, .inl (cf107, 96, .inl f107)), (qf109, .inl (cf109, 96, .inl f109))]) (w1 := [(h0, .inr (13, z_2)), (qf105, .inl (cf105, 8, .inl f105)), (qf102, .inl (cf102, 2048, .inl f102)), (qf100, .inl (cf100, 48000, .inl f100)), (qf104, .inl (cf104, 8, .inl f104))]) hP hD [0, 1, 2, 3, 4] [5, 6, 7, 8] rfl rfl (by decide) (by decide) hk1 hFc hP1 hD1
          clear hP hD
          obtain ⟨hP, hD⟩ := hPD
          replace hK := (hK.sub (tys' := [(cf106, .int), (cf108, .int), (cf107, .int), (cf109, .int)]) [4, 5, 6, 7] rfl).app hK1
          clear hPc hDc hKc hFc hP1 hK1 hD1 hz1 hk1 ht hvm
          generalize H1 = H at hP hS ⊢
          replace hP : va_P (dC, dI) vwCl [(qf106, .inl (cf106, 8, .inl f106)), (qf108, .inl (cf108, 8, .inl f108)), (qf107, .inl (cf107, 96, .inl f107)), (qf109, .inl (cf109, 96, .inl f109)), (h0, .inr (13, z_2)), (qf105, .inl (cf105, 8, .inl f105)), (qf102, .inl (cf102, 2048, .inl f102)), (qf100, .inl (cf100, 48000, .inl f100)), (qf104, .inl (cf104, 8, .inl f104))] H := hP
          replace hD : va_D A [(qf106, .inl (cf106, 8, .inl f106)), (qf108, .inl (cf108, 8, .inl f108)), (qf107, .inl (cf107, 96, .inl f107)), (qf109, .inl (cf109, 96, .inl f109)), (h0, .inr (13, z_2)), (qf105, .inl (cf105, 8, .inl f105)), (qf102, .inl (cf102, 2048, .inl f102)), (qf100, .inl (cf100, 48000, .inl f100)), (qf104, .inl (cf104, 8, .inl f104))] := hD
          replace hK : va_K (dC, dI) vwCl [(cf106, .int), (cf108, .int), (cf107, .int), (cf109, .int), (cf105, .int), (cf102, .int), (cf100, .int), (cf104, .int)] s := hK
          obtain ⟨hwa_2, hln_2, hre_2⟩ := hw
          have hfk_2_98 : z_2[98]? = some (.int v98) := (hre_2 98 ).trans (hfh_60_98)
          have hfk_2_100 : z_2[100]? = some (.ref qf100) := (hre_2 100 ).trans (hfh_60_100)
          have hfk_2_102 : z_2[102]? = some (.ref qf102) := (hre_2 102 ).trans (hfh_60_102)
          have hfk_2_104 : z_2[104]? = some (.ref qf104) := (hre_2 104 ).trans (hfh_60_104)
          have hfk_2_105 : z_2[105]? = some (.ref qf105) := (hre_2 105 ).trans (hfh_60_105)
          have hfk_2_106 : z_2[106]? = some (.ref qf106) := (hre_2 106 ).trans (hfh_60_106)
          have hfk_2_107 : z_2[107]? = some (.ref qf107) := (hre_2 107 ).trans (hfh_60_107)
          have hfk_2_108 : z_2[108]? = some (.ref qf108) := (hre_2 108 ).trans (hfh_60_108)
          have hfk_2_109 : z_2[109]? = some (.ref qf109) := (hre_2 109 ).trans (hfh_60_109)
          have hfk_2_121 : z_2[121]? = some (.int x121_60) := (hre_2 121 ).trans (hfh_60_121)
          have hrq_2 : ∀ j : Nat, j ≠ 121 → z_2[j]? = zs[j]? := fun j g121 => (hre_2 j ).trans (hrh_60 j g121)
          obtain rfl := hwa_2
          refine lv_istore (lv' := [(5, .int u2_0), (9, .int l9_60), (8, .int l8_60), (0, .ref h0), (2, .int l2_60), (3, .int l3_60), (4, .int l4_60), (6, .int l6_60), (7, .int l7_60)]) hx hb dX13_holder_154 hl (by decide) rfl (fun ls hl => ?_)
          refine lv_iinc (v := (l6_60 + 1)) (lv' := [(6, .int (l6_60 + 1)), (5, .int u2_0), (9, .int l9_60), (8, .int l8_60), (0, .ref h0), (2, .int l2_60), (3, .int l3_60), (4, .int l4_60), (7, .int l7_60)]) hx hb dX13_holder_156 hl (k := 7) rfl rfl (by decide) rfl (fun ls hl => ?_)
          refine lv_goto (tgt := 6) hx hb dX13_holder_159 (by decide) ?_
          exact ih_6 H locs ls z_2 l2_60 l3_60 l4_60 u2_0 (l6_60 + 1) x121_60 (hfk_2_98) (hfk_2_100) (hfk_2_102) (hfk_2_104) (hfk_2_105) (hfk_2_106) (hfk_2_107) (hfk_2_108) (hfk_2_109) (hfk_2_121) hln_2 hrq_2 (lv_sub hl [0, 1, 4, 5, 6, 7] rfl) hS (hD.sub (ws' := [(h0, .inr (13, z_2)), (qf105, .inl (cf105, 8, .inl f105)), (qf102, .inl (cf102, 2048, .inl f102)), (qf100, .inl (cf100, 48000, .inl f100)), (qf104, .inl (cf104, 8, .inl f104)), (qf106, .inl (cf106, 8, .inl f106)), (qf108, .inl (cf108, 8, .inl f108)), (qf107, .inl (cf107, 96, .inl f107)), (qf109, .inl (cf109, 96, .inl f109))]) [4, 5, 6, 7, 8, 0, 1, 2, 3] (by decide) rfl) (hP.sub (ws' := [(h0, .inr (13, z_2)), (qf105, .inl (cf105, 8, .inl f105)), (qf102, .inl (cf102, 2048, .inl f102)), (qf100, .inl (cf100, 48000, .inl f100)), (qf104, .inl (cf104, 8, .inl f104)), (qf106, .inl (cf106, 8, .inl f106)), (qf108, .inl (cf108, 8, .inl f108)), (qf107, .inl (cf107, 96, .inl f107)), (qf109, .inl (cf109, 96, .inl f109))]) [4, 5, 6, 7, 8, 0, 1, 2, 3] rfl) hsp
        · rw [if_neg c_8] at hsp
          refine lv_iload hx hb dX13_holder_67 (lv_at hl 5 rfl) ?_
          refine lv_if_eq (tgt := 96) hx hb dX13_holder_69 (by decide) (fun c_10 => ?_) (fun c_10 => ?_)
          · rw [if_pos c_10] at hsp
            refine lv_aload_n hx hb dX13_holder_96 rfl (lv_at hl 2 rfl) ?_
            refine lv_iload hx hb dX13_holder_97 (lv_at hl 8 rfl) ?_
            refine lv_aload_n hx hb dX13_holder_99 rfl (lv_at hl 2 rfl) ?_
            refine va_get (D := (dC, dI)) (ci := 13) (v := .ref qf107) (C := RX13) (T := TX13) (N := 155) hx hb hts uV_h9_X13 hown hK hP 0 rfl rfl 107 (by decide) (hts (.fieldLink RX13 230 "ClassMillModel" "fieldAt" "[I") mw_h9_257) (fun _ h9 => h9) hfh_60_107 dX13_holder_100 ?_
            refine lv_bipush (v := 12) hx hb dX13_holder_103 (by decide) ?_
            refine lv_iload hx hb dX13_holder_105 (lv_at hl 8 rfl) ?_
            refine lv_imul hx hb dX13_holder_107 ?_
            refine lv_iload hx hb dX13_holder_108 (lv_at hl 0 rfl) ?_
            refine lv_iadd hx hb dX13_holder_110 ?_
            obtain ⟨hi_11, hsp⟩ := ox_in hsp
            refine va_iald hx hb hK hP 7 6 rfl rfl (i := ((12 * l7_60) + l9_60)) hi_11 dX13_holder_111 ?_
            obtain ⟨u3_0, hu_3, hsp⟩ := ox_bind hsp
            try dsimp only at hsp
            have hPc := hP.sub (ws' := [(h0, .inr (13, z60)), (qf100, .inl (cf100, 48000, .inl f100))]) [0, 3] rfl
            have hDc := hD.sub (ws' := [(h0, .inr (13, z60)), (qf100, .inl (cf100, 48000, .inl f100))]) [0, 3] (by decide) rfl
            have hKc := hK.sub (tys' := [(cf100, .int)]) [2] rfl
            have hFc := va_free (wc := [(h0, .inr (13, z60)), (qf100, .inl (cf100, 48000, .inl f100))]) hD hS hA [0, 3] rfl
            refine va_calli (va_runV (As := [.int l7_60, .int (f107 (((12 * l7_60) + l9_60) : Int32).toNatClampNeg)]) (rest := []) ⟨hx, hb, hml, hown, hts⟩ (tm_byteAt l dC dI H.size h0 z60 l7_60 ((f107 (((12 * l7_60) + l9_60) : Int32).toNatClampNeg)) qf100 cf100 f100 nf u3_0 hlh_60 hfh_60_100 hu_3) (cwV 2 hts gv_h9_58 rfl rfl rfl (by decide +kernel) ⟨Nat.le_of_ble_eq_true rfl, Nat.le_of_ble_eq_true rfl⟩) ⟨fun a U g mk q => by obtain ⟨q0, q1, qP, qK, qD⟩ := q; exact ⟨q0, q1, qP, va_K.moved (u := U) (U := U.calling g mk a) (Vm.Alike.refl U.vm) qK, qD⟩, va_recv hKc hPc (ci := 13) (q0 := 0) rfl rfl, fun U hU hW => ⟨rfl, by rw [hU], by rw [hU]; exact hPc, va_K.moved hW.alike hKc, hDc.weaken (fun _ _ _ _ => trivial)⟩⟩ rfl rfl hl.1 rfl (lv_room (Nat.le_of_ble_eq_true rfl)) dX13_holder_112 ⟨Nat.le_of_ble_eq_true rfl, Nat.le_of_ble_eq_true rfl⟩) hS (fun q _ h => hFc q h) hFc ?_
            clear hS
            intro r_12 u t H1 locs ht hvm hw hB hz1 hk1 hS
            obtain ⟨z_3, rfl⟩ : ∃ z, z = u := ⟨_, rfl⟩
            obtain ⟨hP1, hK1, hD1⟩ := hB
            rw [ht] at hP1
            have hK1 := va_K.moved hvm.symm hK1
            try dsimp only at hw
            have hPD := va_join (wr := [(qf105, .inl (cf105, 8, .inl f105)), (qf102, .inl (cf102, 2048, .inl f102)), (qf104, .inl (cf104, 8, .inl f104)), (qf106, .inl (cf106, 8, .inl f106)), (qf108, .inl (cf108, 8, .inl f108)), (qf107, .inl (cf107, 96, .inl f107)), (qf109, .inl (cf109, 96, .inl f109))]) (w1 := [(h0, .inr (13, z_3)), (qf100, .inl (cf100, 48000, .inl f100))]) hP hD [0, 3] [1, 2, 4, 5, 6, 7, 8] rfl rfl (by decide) (by decide) hk1 hFc hP1 hD1
            clear hP hD
            obtain ⟨hP, hD⟩ := hPD
            replace hK := (hK.sub (tys' := [(cf105, .int), (cf102, .int), (cf104, .int), (cf106, .int), (cf108, .int), (cf107, .int), (cf109, .int)]) [0, 1, 3, 4, 5, 6, 7] rfl).app hK1
            clear hPc hDc hKc hFc hP1 hK1 hD1 hz1 hk1 ht hvm
            generalize H1 = H at hP hS ⊢
            replace hP : va_P (dC, dI) vwCl [(qf105, .inl (cf105, 8, .inl f105)), (qf102, .inl (cf102, 2048, .inl f102)), (qf104, .inl (cf104, 8, .inl f104)), (qf106, .inl (cf106, 8, .inl f106)), (qf108, .inl (cf108, 8, .inl f108)), (qf107, .inl (cf107, 96, .inl f107)), (qf109, .inl (cf109, 96, .inl f109)), (h0, .inr (13, z_3)), (qf100, .inl (cf100, 48000, .inl f100))] H := hP
            replace hD : va_D A [(qf105, .inl (cf105, 8, .inl f105)), (qf102, .inl (cf102, 2048, .inl f102)), (qf104, .inl (cf104, 8, .inl f104)), (qf106, .inl (cf106, 8, .inl f106)), (qf108, .inl (cf108, 8, .inl f108)), (qf107, .inl (cf107, 96, .inl f107)), (qf109, .inl (cf109, 96, .inl f109)), (h0, .inr (13, z_3)), (qf100, .inl (cf100, 48000, .inl f100))] := hD
            replace hK : va_K (dC, dI) vwCl [(cf105, .int), (cf102, .int), (cf104, .int), (cf106, .int), (cf108, .int), (cf107, .int), (cf109, .int), (cf100, .int)] s := hK
            obtain ⟨hwa_3, hln_3, hre_3⟩ := hw
            have hfk_3_98 : z_3[98]? = some (.int v98) := (hre_3 98 ).trans (hfh_60_98)
            have hfk_3_100 : z_3[100]? = some (.ref qf100) := (hre_3 100 ).trans (hfh_60_100)
            have hfk_3_102 : z_3[102]? = some (.ref qf102) := (hre_3 102 ).trans (hfh_60_102)
            have hfk_3_104 : z_3[104]? = some (.ref qf104) := (hre_3 104 ).trans (hfh_60_104)
            have hfk_3_105 : z_3[105]? = some (.ref qf105) := (hre_3 105 ).trans (hfh_60_105)
            have hfk_3_106 : z_3[106]? = some (.ref qf106) := (hre_3 106 ).trans (hfh_60_106)
            have hfk_3_107 : z_3[107]? = some (.ref qf107) := (hre_3 107 ).trans (hfh_60_107)
            have hfk_3_108 : z_3[108]? = some (.ref qf108) := (hre_3 108 ).trans (hfh_60_108)
            have hfk_3_109 : z_3[109]? = some (.ref qf109) := (hre_3 109 ).trans (hfh_60_109)
            have hfk_3_121 : z_3[121]? = some (.int x121_60) := (hre_3 121 ).trans (hfh_60_121)
            have hrq_3 : ∀ j : Nat, j ≠ 121 → z_3[j]? = zs[j]? := fun j g121 => (hre_3 j ).trans (hrh_60 j g121)
            obtain rfl := hwa_3
            exact hj_115 (H, locs, ls, z_3, l2_60, l3_60, l4_60, l5_60, l6_60, l7_60, l8_60, l9_60, u3_0, x121_60) ⟨lv_sub hl [2, 3, 4, 5, 6, 7, 8, 1, 0] rfl, hS, hD.sub (ws' := [(h0, .inr (13, z_3)), (qf105, .inl (cf105, 8, .inl f105)), (qf102, .inl (cf102, 2048, .inl f102)), (qf100, .inl (cf100, 48000, .inl f100)), (qf104, .inl (cf104, 8, .inl f104)), (qf106, .inl (cf106, 8, .inl f106)), (qf108, .inl (cf108, 8, .inl f108)), (qf107, .inl (cf107, 96, .inl f107)), (qf109, .inl (cf109, 96, .inl f109))]) [7, 0, 1, 8, 2, 3, 4, 5, 6] (by decide) rfl, hP.sub (ws' := [(h0, .inr (13, z_3)), (qf105, .inl (cf105, 8, .inl f105)), (qf102, .inl (cf102, 2048, .inl f102)), (qf100, .inl (cf100, 48000, .inl f100)), (qf104, .inl (cf104, 8, .inl f104)), (qf106, .inl (cf106, 8, .inl f106)), (qf108, .inl (cf108, 8, .inl f108)), (qf107, .inl (cf107, 96, .inl f107)), (qf109, .inl (cf109, 96, .inl f109))]) [7, 0, 1, 8, 2, 3, 4, 5, 6] rfl, hfk_3_98, hfk_3_100, hfk_3_102, hfk_3_104, hfk_3_105, hfk_3_106, hfk_3_107, hfk_3_108, hfk_3_109, hfk_3_121, hln_3, hrq_3, hsp⟩
          · rw [if_neg c_10] at hsp
            refine lv_aload_n hx hb dX13_holder_72 rfl (lv_at hl 2 rfl) ?_
            refine lv_iload hx hb dX13_holder_73 (lv_at hl 8 rfl) ?_
            refine lv_aload_n hx hb dX13_holder_75 rfl (lv_at hl 2 rfl) ?_
            refine va_get (D := (dC, dI)) (ci := 13) (v := .ref qf109) (C := RX13) (T := TX13) (N := 155) hx hb hts uV_h9_X13 hown hK hP 0 rfl rfl 109 (by decide) (hts (.fieldLink RX13 236 "ClassMillModel" "methodAt" "[I") mw_h9_282) (fun _ h9 => h9) hfh_60_109 dX13_holder_76 ?_
            refine lv_bipush (v := 12) hx hb dX13_holder_79 (by decide) ?_
            refine lv_iload hx hb dX13_holder_81 (lv_at hl 8 rfl) ?_
            refine lv_imul hx hb dX13_holder_83 ?_
            refine lv_iload hx hb dX13_holder_84 (lv_at hl 0 rfl) ?_
            refine lv_iadd hx hb dX13_holder_86 ?_
            obtain ⟨hi_13, hsp⟩ := ox_in hsp
            refine va_iald hx hb hK hP 8 7 rfl rfl (i := ((12 * l7_60) + l9_60)) hi_13 dX13_holder_87 ?_
            refine lv_iconst (v := 1) hx hb dX13_holder_88 (by decide) ?_
            refine lv_iadd hx hb dX13_holder_89 ?_
            obtain ⟨u4_0, hu_4, hsp⟩ := ox_bind hsp
            try dsimp only at hsp
            have hPc := hP.sub (ws' := [(h0, .inr (13, z60)), (qf100, .inl (cf100, 48000, .inl f100))]) [0, 3] rfl
            have hDc := hD.sub (ws' := [(h0, .inr (13, z60)), (qf100, .inl (cf100, 48000, .inl f100))]) [0, 3] (by decide) rfl
            have hKc := hK.sub (tys' := [(cf100, .int)]) [2] rfl
            have hFc := va_free (wc := [(h0, .inr (13, z60)), (qf100, .inl (cf100, 48000, .inl f100))]) hD hS hA [0, 3] rfl
            refine va_calli (va_runV (As := [.int l7_60, .int ((f109 (((12 * l7_60) + l9_60) : Int32).toNatClampNeg) + 1)]) (rest := []) ⟨hx, hb, hml, hown, hts⟩ (tm_byteAt l dC dI H.size h0 z60 l7_60 (((f109 (((12 * l7_60) + l9_60) : Int32).toNatClampNeg) + 1)) qf100 cf100 f100 nf u4_0 hlh_60 hfh_60_100 hu_4) (cwV 2 hts gv_h9_58 rfl rfl rfl (by decide +kernel) ⟨Nat.le_of_ble_eq_true rfl, Nat.le_of_ble_eq_true rfl⟩) ⟨fun a U g mk q => by obtain ⟨q0, q1, qP, qK, qD⟩ := q; exact ⟨q0, q1, qP, va_K.moved (u := U) (U := U.calling g mk a) (Vm.Alike.refl U.vm) qK, qD⟩, va_recv hKc hPc (ci := 13) (q0 := 0) rfl rfl, fun U hU hW => ⟨rfl, by rw [hU], by rw [hU]; exact hPc, va_K.moved hW.alike hKc, hDc.weaken (fun _ _ _ _ => trivial)⟩⟩ rfl rfl hl.1 rfl (lv_room (Nat.le_of_ble_eq_true rfl)) dX13_holder_90 ⟨Nat.le_of_ble_eq_true rfl, Nat.le_of_ble_eq_true rfl⟩) hS (fun q _ h => hFc q h) hFc ?_
            clear hS
            intro r_14 u t H1 locs ht hvm hw hB hz1 hk1 hS
            obtain ⟨z_4, rfl⟩ : ∃ z, z = u := ⟨_, rfl⟩
            obtain ⟨hP1, hK1, hD1⟩ := hB
            rw [ht] at hP1
            have hK1 := va_K.moved hvm.symm hK1
            try dsimp only at hw
            have hPD := va_join (wr := [(qf105, .inl (cf105, 8, .inl f105)), (qf102, .inl (cf102, 2048, .inl f102)), (qf104, .inl (cf104, 8, .inl f104)), (qf106, .inl (cf106, 8, .inl f106)), (qf108, .inl (cf108, 8, .inl f108)), (qf107, .inl (cf107, 96, .inl f107)), (qf109, .inl (cf109, 96, .inl f109))]) (w1 := [(h0, .inr (13, z_4)), (qf100, .inl (cf100, 48000, .inl f100))]) hP hD [0, 3] [1, 2, 4, 5, 6, 7, 8] rfl rfl (by decide) (by decide) hk1 hFc hP1 hD1
            clear hP hD
            obtain ⟨hP, hD⟩ := hPD
            replace hK := (hK.sub (tys' := [(cf105, .int), (cf102, .int), (cf104, .int), (cf106, .int), (cf108, .int), (cf107, .int), (cf109, .int)]) [0, 1, 3, 4, 5, 6, 7] rfl).app hK1
            clear hPc hDc hKc hFc hP1 hK1 hD1 hz1 hk1 ht hvm
            generalize H1 = H at hP hS ⊢
            replace hP : va_P (dC, dI) vwCl [(qf105, .inl (cf105, 8, .inl f105)), (qf102, .inl (cf102, 2048, .inl f102)), (qf104, .inl (cf104, 8, .inl f104)), (qf106, .inl (cf106, 8, .inl f106)), (qf108, .inl (cf108, 8, .inl f108)), (qf107, .inl (cf107, 96, .inl f107)), (qf109, .inl (cf109, 96, .inl f109)), (h0, .inr (13, z_4)), (qf100, .inl (cf100, 48000, .inl f100))] H := hP
            replace hD : va_D A [(qf105, .inl (cf105, 8, .inl f105)), (qf102, .inl (cf102, 2048, .inl f102)), (qf104, .inl (cf104, 8, .inl f104)), (qf106, .inl (cf106, 8, .inl f106)), (qf108, .inl (cf108, 8, .inl f108)), (qf107, .inl (cf107, 96, .inl f107)), (qf109, .inl (cf109, 96, .inl f109)), (h0, .inr (13, z_4)), (qf100, .inl (cf100, 48000, .inl f100))] := hD
            replace hK : va_K (dC, dI) vwCl [(cf105, .int), (cf102, .int), (cf104, .int), (cf106, .int), (cf108, .int), (cf107, .int), (cf109, .int), (cf100, .int)] s := hK
            obtain ⟨hwa_4, hln_4, hre_4⟩ := hw
            have hfk_4_98 : z_4[98]? = some (.int v98) := (hre_4 98 ).trans (hfh_60_98)
            have hfk_4_100 : z_4[100]? = some (.ref qf100) := (hre_4 100 ).trans (hfh_60_100)
            have hfk_4_102 : z_4[102]? = some (.ref qf102) := (hre_4 102 ).trans (hfh_60_102)
            have hfk_4_104 : z_4[104]? = some (.ref qf104) := (hre_4 104 ).trans (hfh_60_104)
            have hfk_4_105 : z_4[105]? = some (.ref qf105) := (hre_4 105 ).trans (hfh_60_105)
            have hfk_4_106 : z_4[106]? = some (.ref qf106) := (hre_4 106 ).trans (hfh_60_106)
            have hfk_4_107 : z_4[107]? = some (.ref qf107) := (hre_4 107 ).trans (hfh_60_107)
            have hfk_4_108 : z_4[108]? = some (.ref qf108) := (hre_4 108 ).trans (hfh_60_108)
            have hfk_4_109 : z_4[109]? = some (.ref qf109) := (hre_4 109 ).trans (hfh_60_109)
            have hfk_4_121 : z_4[121]? = some (.int x121_60) := (hre_4 121 ).trans (hfh_60_121)
            have hrq_4 : ∀ j : Nat, j ≠ 121 → z_4[j]? = zs[j]? := fun j g121 => (hre_4 j ).trans (hrh_60 j g121)
            obtain rfl := hwa_4
            refine lv_goto (tgt := 115) hx hb dX13_holder_93 (by decide) ?_
            exact hj_115 (H, locs, ls, z_4, l2_60, l3_60, l4_60, l5_60, l6_60, l7_60, l8_60, l9_60, u4_0, x121_60) ⟨lv_sub hl [2, 3, 4, 5, 6, 7, 8, 1, 0] rfl, hS, hD.sub (ws' := [(h0, .inr (13, z_4)), (qf105, .inl (cf105, 8, .inl f105)), (qf102, .inl (cf102, 2048, .inl f102)), (qf100, .inl (cf100, 48000, .inl f100)), (qf104, .inl (cf104, 8, .inl f104)), (qf106, .inl (cf106, 8, .inl f106)), (qf108, .inl (cf108, 8, .inl f108)), (qf107, .inl (cf107, 96, .inl f107)), (qf109, .inl (cf109, 96, .inl f109))]) [7, 0, 1, 8, 2, 3, 4, 5, 6] (by decide) rfl, hP.sub (ws' := [(h0, .inr (13, z_4)), (qf105, .inl (cf105, 8, .inl f105)), (qf102, .inl (cf102, 2048, .inl f102)), (qf100, .inl (cf100, 48000, .inl f100)), (qf104, .inl (cf104, 8, .inl f104)), (qf106, .inl (cf106, 8, .inl f106)), (qf108, .inl (cf108, 8, .inl f108)), (qf107, .inl (cf107, 96, .inl f107)), (qf109, .inl (cf109, 96, .inl f109))]) [7, 0, 1, 8, 2, 3, 4, 5, 6] rfl, hfk_4_98, hfk_4_100, hfk_4_102, hfk_4_104, hfk_4_105, hfk_4_106, hfk_4_107, hfk_4_108, hfk_4_109, hfk_4_121, hln_4, hrq_4, hsp⟩
    intro hj_55
    refine lv_iload hx hb dX13_holder_6 (lv_at hl 0 rfl) ?_
    refine lv_bipush (v := 16) hx hb dX13_holder_8 (by decide) ?_
    refine lv_icmp_gt (tgt := 162) hx hb dX13_holder_10 (by decide) (fun c_1 => ?_) (fun c_1 => ?_)
    · rw [if_pos c_1] at hsp
      refine lv_iconst (v := (-1)) hx hb dX13_holder_162 (by decide) ?_
      have hr0 := Option.some.inj hsp
      clear hsp
      obtain ⟨hq0, hr1⟩ := Prod.mk.inj hr0
      clear hr0
      subst hq0
      subst hr1
      have hP9 := hP.sub (ws' := [(h0, .inr (13, z6)), (qf105, .inl (cf105, 8, .inl f105)), (qf102, .inl (cf102, 2048, .inl f102)), (qf100, .inl (cf100, 48000, .inl f100)), (qf104, .inl (cf104, 8, .inl f104)), (qf106, .inl (cf106, 8, .inl f106)), (qf108, .inl (cf108, 8, .inl f108)), (qf107, .inl (cf107, 96, .inl f107)), (qf109, .inl (cf109, 96, .inl f109))]) [0, 1, 2, 3, 4, 5, 6, 7, 8] rfl
      have hD9 := hD.sub (ws' := [(h0, .inr (13, z6)), (qf105, .inl (cf105, 8, .inl f105)), (qf102, .inl (cf102, 2048, .inl f102)), (qf100, .inl (cf100, 48000, .inl f100)), (qf104, .inl (cf104, 8, .inl f104)), (qf106, .inl (cf106, 8, .inl f106)), (qf108, .inl (cf108, 8, .inl f108)), (qf107, .inl (cf107, 96, .inl f107)), (qf109, .inl (cf109, 96, .inl f109))]) [0, 1, 2, 3, 4, 5, 6, 7, 8] (by decide) rfl
      have hK9 := hK.sub (tys' := [(cf105, .int), (cf102, .int), (cf100, .int), (cf104, .int), (cf106, .int), (cf108, .int), (cf107, .int), (cf109, .int)]) [0, 1, 2, 3, 4, 5, 6, 7] rfl
      exact W.iret hx hb hr (fun t ht hW => ⟨⟨((-1)), (z6), rfl, ⟨rfl, hlh_6, hrh_6, hfh_6_121⟩, by rw [ht]; exact hP9, va_K.moved hW.alike hK9, hD9⟩, hS.F ht⟩) hS.2.2 dX13_holder_163
    · rw [if_neg c_1] at hsp
      refine lv_iload hx hb dX13_holder_13 (lv_at hl 1 rfl) ?_
      refine lv_iconst (v := (-1)) hx hb dX13_holder_15 (by decide) ?_
      refine lv_icmp_eq (tgt := 162) hx hb dX13_holder_16 (by decide) (fun c_2 => ?_) (fun c_2 => ?_)
      · rw [if_pos c_2] at hsp
        refine lv_iconst (v := (-1)) hx hb dX13_holder_162 (by decide) ?_
        have hr0 := Option.some.inj hsp
        clear hsp
        obtain ⟨hq0, hr1⟩ := Prod.mk.inj hr0
        clear hr0
        subst hq0
        subst hr1
        have hP9 := hP.sub (ws' := [(h0, .inr (13, z6)), (qf105, .inl (cf105, 8, .inl f105)), (qf102, .inl (cf102, 2048, .inl f102)), (qf100, .inl (cf100, 48000, .inl f100)), (qf104, .inl (cf104, 8, .inl f104)), (qf106, .inl (cf106, 8, .inl f106)), (qf108, .inl (cf108, 8, .inl f108)), (qf107, .inl (cf107, 96, .inl f107)), (qf109, .inl (cf109, 96, .inl f109))]) [0, 1, 2, 3, 4, 5, 6, 7, 8] rfl
        have hD9 := hD.sub (ws' := [(h0, .inr (13, z6)), (qf105, .inl (cf105, 8, .inl f105)), (qf102, .inl (cf102, 2048, .inl f102)), (qf100, .inl (cf100, 48000, .inl f100)), (qf104, .inl (cf104, 8, .inl f104)), (qf106, .inl (cf106, 8, .inl f106)), (qf108, .inl (cf108, 8, .inl f108)), (qf107, .inl (cf107, 96, .inl f107)), (qf109, .inl (cf109, 96, .inl f109))]) [0, 1, 2, 3, 4, 5, 6, 7, 8] (by decide) rfl
        have hK9 := hK.sub (tys' := [(cf105, .int), (cf102, .int), (cf100, .int), (cf104, .int), (cf106, .int), (cf108, .int), (cf107, .int), (cf109, .int)]) [0, 1, 2, 3, 4, 5, 6, 7] rfl
        exact W.iret hx hb hr (fun t ht hW => ⟨⟨((-1)), (z6), rfl, ⟨rfl, hlh_6, hrh_6, hfh_6_121⟩, by rw [ht]; exact hP9, va_K.moved hW.alike hK9, hD9⟩, hS.F ht⟩) hS.2.2 dX13_holder_163
      · rw [if_neg c_2] at hsp
        refine lv_iload hx hb dX13_holder_19 (lv_at hl 1 rfl) ?_
        refine lv_bipush (v := 8) hx hb dX13_holder_21 (by decide) ?_
        refine lv_icmp_lt (tgt := 148) hx hb dX13_holder_23 (by decide) (fun c_3 => ?_) (fun c_3 => ?_)
        · rw [if_pos c_3] at hsp
          refine lv_aload_n hx hb dX13_holder_148 rfl (lv_at hl 2 rfl) ?_
          refine lv_iload hx hb dX13_holder_149 (lv_at hl 1 rfl) ?_
          obtain ⟨u1_0, hu_1, hsp⟩ := ox_bind hsp
          try dsimp only at hsp
          have hPc := hP.sub (ws' := [(h0, .inr (13, z6)), (qf105, .inl (cf105, 8, .inl f105)), (qf102, .inl (cf102, 2048, .inl f102)), (qf100, .inl (cf100, 48000, .inl f100)), (qf104, .inl (cf104, 8, .inl f104))]) [0, 1, 2, 3, 4] rfl
          have hDc := hD.sub (ws' := [(h0, .inr (13, z6)), (qf105, .inl (cf105, 8, .inl f105)), (qf102, .inl (cf102, 2048, .inl f102)), (qf100, .inl (cf100, 48000, .inl f100)), (qf104, .inl (cf104, 8, .inl f104))]) [0, 1, 2, 3, 4] (by decide) rfl
          have hKc := hK.sub (tys' := [(cf105, .int), (cf102, .int), (cf100, .int), (cf104, .int)]) [0, 1, 2, 3] rfl
          have hFc := va_free (wc := [(h0, .inr (13, z6)), (qf105, .inl (cf105, 8, .inl f105)), (qf102, .inl (cf102, 2048, .inl f102)), (qf100, .inl (cf100, 48000, .inl f100)), (qf104, .inl (cf104, 8, .inl f104))]) hD hS hA [0, 1, 2, 3, 4] rfl
          refine va_calli (va_runV (As := [.int l5_6]) (rest := []) ⟨hx, hb, hml, hown, hts⟩ (vm_superOf l dC dI H.size h0 z6 l5_6 v98 qf100 qf102 qf104 qf105 cf105 f105 cf102 f102 cf100 f100 cf104 f104 nS477 fS477 hS477 qS477 tS477 nf u1_0 hlh_6 hfh_6_98 hfh_6_100 hfh_6_102 hfh_6_104 hfh_6_105 hu_1) (cwV 1 hts gv_h9_98 rfl rfl rfl (by decide +kernel) ⟨Nat.le_of_ble_eq_true rfl, Nat.le_of_ble_eq_true rfl⟩) ⟨fun a U g mk q => by obtain ⟨q0, q1, qP, qK, qD, qhZWS477, qhZRS477⟩ := q; exact ⟨q0, q1, qP, va_K.moved (u := U) (U := U.calling g mk a) (Vm.Alike.refl U.vm) qK, qD, pz_W.moved (u := U) (U := U.calling g mk a) (Vm.Alike.refl U.vm) qhZWS477, vk_R.same rfl qhZRS477⟩, va_recv hKc hPc (ci := 13) (q0 := 0) rfl rfl, fun U hU hW => ⟨rfl, by rw [hU], by rw [hU]; exact hPc, va_K.moved hW.alike hKc, hDc.weaken (fun _ _ _ _ => trivial), by rw [hU]; exact ((pz_W.moved hW.alike hZWS477).kept hS.2.1).narrow hFc, vk_R.warm hW hZRS477⟩⟩ rfl rfl hl.1 rfl (lv_room (Nat.le_of_ble_eq_true rfl)) dX13_holder_151 ⟨Nat.le_of_ble_eq_true rfl, Nat.le_of_ble_eq_true rfl⟩) hS (fun q _ h => hFc q h) hFc ?_
          clear hS
          intro r_4 u t H1 locs ht hvm hw hB hz1 hk1 hS
          obtain ⟨z_1, rfl⟩ : ∃ z, z = u := ⟨_, rfl⟩
          obtain ⟨hP1, hK1, hD1⟩ := hB
          rw [ht] at hP1
          have hK1 := va_K.moved hvm.symm hK1
          try dsimp only at hw
          have hPD := va_join (wr := [(qf106, .inl (cf106, 8, .inl f106)), (qf108, .inl (cf108, 8, .inl f108)), (qf107, .inl (cf107, 96, .inl f107)), (qf109, .inl (cf109, 96, .inl f109))]) (w1 := [(h0, .inr (13, z_1)), (qf105, .inl (cf105, 8, .inl f105)), (qf102, .inl (cf102, 2048, .inl f102)), (qf100, .inl (cf100, 48000, .inl f100)), (qf104, .inl (cf104, 8, .inl f104))]) hP hD [0, 1, 2, 3, 4] [5, 6, 7, 8] rfl rfl (by decide) (by decide) hk1 hFc hP1 hD1
          clear hP hD
          obtain ⟨hP, hD⟩ := hPD
          replace hK := (hK.sub (tys' := [(cf106, .int), (cf108, .int), (cf107, .int), (cf109, .int)]) [4, 5, 6, 7] rfl).app hK1
          clear hPc hDc hKc hFc hP1 hK1 hD1 hz1 hk1 ht hvm
          generalize H1 = H at hP hS ⊢
          replace hP : va_P (dC, dI) vwCl [(qf106, .inl (cf106, 8, .inl f106)), (qf108, .inl (cf108, 8, .inl f108)), (qf107, .inl (cf107, 96, .inl f107)), (qf109, .inl (cf109, 96, .inl f109)), (h0, .inr (13, z_1)), (qf105, .inl (cf105, 8, .inl f105)), (qf102, .inl (cf102, 2048, .inl f102)), (qf100, .inl (cf100, 48000, .inl f100)), (qf104, .inl (cf104, 8, .inl f104))] H := hP
          replace hD : va_D A [(qf106, .inl (cf106, 8, .inl f106)), (qf108, .inl (cf108, 8, .inl f108)), (qf107, .inl (cf107, 96, .inl f107)), (qf109, .inl (cf109, 96, .inl f109)), (h0, .inr (13, z_1)), (qf105, .inl (cf105, 8, .inl f105)), (qf102, .inl (cf102, 2048, .inl f102)), (qf100, .inl (cf100, 48000, .inl f100)), (qf104, .inl (cf104, 8, .inl f104))] := hD
          replace hK : va_K (dC, dI) vwCl [(cf106, .int), (cf108, .int), (cf107, .int), (cf109, .int), (cf105, .int), (cf102, .int), (cf100, .int), (cf104, .int)] s := hK
          obtain ⟨hwa_1, hln_1, hre_1⟩ := hw
          have hfk_1_98 : z_1[98]? = some (.int v98) := (hre_1 98 ).trans (hfh_6_98)
          have hfk_1_100 : z_1[100]? = some (.ref qf100) := (hre_1 100 ).trans (hfh_6_100)
          have hfk_1_102 : z_1[102]? = some (.ref qf102) := (hre_1 102 ).trans (hfh_6_102)
          have hfk_1_104 : z_1[104]? = some (.ref qf104) := (hre_1 104 ).trans (hfh_6_104)
          have hfk_1_105 : z_1[105]? = some (.ref qf105) := (hre_1 105 ).trans (hfh_6_105)
          have hfk_1_106 : z_1[106]? = some (.ref qf106) := (hre_1 106 ).trans (hfh_6_106)
          have hfk_1_107 : z_1[107]? = some (.ref qf107) := (hre_1 107 ).trans (hfh_6_107)
          have hfk_1_108 : z_1[108]? = some (.ref qf108) := (hre_1 108 ).trans (hfh_6_108)
          have hfk_1_109 : z_1[109]? = some (.ref qf109) := (hre_1 109 ).trans (hfh_6_109)
          have hfk_1_121 : z_1[121]? = some (.int x121_6) := (hre_1 121 ).trans (hfh_6_121)
          have hrq_1 : ∀ j : Nat, j ≠ 121 → z_1[j]? = zs[j]? := fun j g121 => (hre_1 j ).trans (hrh_6 j g121)
          obtain rfl := hwa_1
          refine lv_istore (lv' := [(5, .int u1_0), (6, .int l6_6), (0, .ref h0), (2, .int l2_6), (3, .int l3_6), (4, .int l4_6)]) hx hb dX13_holder_154 hl (by decide) rfl (fun ls hl => ?_)
          refine lv_iinc (v := (l6_6 + 1)) (lv' := [(6, .int (l6_6 + 1)), (5, .int u1_0), (0, .ref h0), (2, .int l2_6), (3, .int l3_6), (4, .int l4_6)]) hx hb dX13_holder_156 hl (k := 1) rfl rfl (by decide) rfl (fun ls hl => ?_)
          refine lv_goto (tgt := 6) hx hb dX13_holder_159 (by decide) ?_
          exact ih_6 H locs ls z_1 l2_6 l3_6 l4_6 u1_0 (l6_6 + 1) x121_6 (hfk_1_98) (hfk_1_100) (hfk_1_102) (hfk_1_104) (hfk_1_105) (hfk_1_106) (hfk_1_107) (hfk_1_108) (hfk_1_109) (hfk_1_121) hln_1 hrq_1 (lv_sub hl [0, 1, 2, 3, 4, 5] rfl) hS (hD.sub (ws' := [(h0, .inr (13, z_1)), (qf105, .inl (cf105, 8, .inl f105)), (qf102, .inl (cf102, 2048, .inl f102)), (qf100, .inl (cf100, 48000, .inl f100)), (qf104, .inl (cf104, 8, .inl f104)), (qf106, .inl (cf106, 8, .inl f106)), (qf108, .inl (cf108, 8, .inl f108)), (qf107, .inl (cf107, 96, .inl f107)), (qf109, .inl (cf109, 96, .inl f109))]) [4, 5, 6, 7, 8, 0, 1, 2, 3] (by decide) rfl) (hP.sub (ws' := [(h0, .inr (13, z_1)), (qf105, .inl (cf105, 8, .inl f105)), (qf102, .inl (cf102, 2048, .inl f102)), (qf100, .inl (cf100, 48000, .inl f100)), (qf104, .inl (cf104, 8, .inl f104)), (qf106, .inl (cf106, 8, .inl f106)), (qf108, .inl (cf108, 8, .inl f108)), (qf107, .inl (cf107, 96, .inl f107)), (qf109, .inl (cf109, 96, .inl f109))]) [4, 5, 6, 7, 8, 0, 1, 2, 3] rfl) hsp
        · rw [if_neg c_3] at hsp
          refine lv_iload hx hb dX13_holder_26 (lv_at hl 1 rfl) ?_
          refine lv_bipush (v := 8) hx hb dX13_holder_28 (by decide) ?_
          refine lv_isub hx hb dX13_holder_30 ?_
          refine lv_istore (lv' := [(7, .int (l5_6 - 8)), (6, .int l6_6), (5, .int l5_6), (0, .ref h0), (2, .int l2_6), (3, .int l3_6), (4, .int l4_6)]) hx hb dX13_holder_31 hl (by decide) rfl (fun ls hl => ?_)
          refine lv_iload hx hb dX13_holder_33 (lv_at hl 6 rfl) ?_
          refine lv_if_eq (tgt := 48) hx hb dX13_holder_35 (by decide) (fun c_5 => ?_) (fun c_5 => ?_)
          · rw [if_pos c_5] at hsp
            refine lv_aload_n hx hb dX13_holder_48 rfl (lv_at hl 3 rfl) ?_
            refine va_get (D := (dC, dI)) (ci := 13) (v := .ref qf106) (C := RX13) (T := TX13) (N := 155) hx hb hts uV_h9_X13 hown hK hP 0 rfl rfl 106 (by decide) (hts (.fieldLink RX13 227 "ClassMillModel" "fieldMany" "[I") mw_h9_256) (fun _ h9 => h9) hfh_6_106 dX13_holder_49 ?_
            refine lv_iload hx hb dX13_holder_52 (lv_at hl 0 rfl) ?_
            obtain ⟨hi_6, hsp⟩ := ox_in hsp
            refine va_iald hx hb hK hP 5 4 rfl rfl (i := (l5_6 - 8)) hi_6 dX13_holder_54 ?_
            exact hj_55 (H, locs, ls, z6, l2_6, l3_6, l4_6, l5_6, l6_6, (l5_6 - 8), (f106 ((l5_6 - 8) : Int32).toNatClampNeg), x121_6) ⟨lv_sub hl [3, 4, 5, 6, 2, 1, 0] rfl, hS, hD.sub (ws' := [(h0, .inr (13, z6)), (qf105, .inl (cf105, 8, .inl f105)), (qf102, .inl (cf102, 2048, .inl f102)), (qf100, .inl (cf100, 48000, .inl f100)), (qf104, .inl (cf104, 8, .inl f104)), (qf106, .inl (cf106, 8, .inl f106)), (qf108, .inl (cf108, 8, .inl f108)), (qf107, .inl (cf107, 96, .inl f107)), (qf109, .inl (cf109, 96, .inl f109))]) [0, 1, 2, 3, 4, 5, 6, 7, 8] (by decide) rfl, hP.sub (ws' := [(h0, .inr (13, z6)), (qf105, .inl (cf105, 8, .inl f105)), (qf102, .inl (cf102, 2048, .inl f102)), (qf100, .inl (cf100, 48000, .inl f100)), (qf104, .inl (cf104, 8, .inl f104)), (qf106, .inl (cf106, 8, .inl f106)), (qf108, .inl (cf108, 8, .inl f108)), (qf107, .inl (cf107, 96, .inl f107)), (qf109, .inl (cf109, 96, .inl f109))]) [0, 1, 2, 3, 4, 5, 6, 7, 8] rfl, hfh_6_98, hfh_6_100, hfh_6_102, hfh_6_104, hfh_6_105, hfh_6_106, hfh_6_107, hfh_6_108, hfh_6_109, hfh_6_121, hlh_6, hrh_6, hsp⟩
          · rw [if_neg c_5] at hsp
            refine lv_aload_n hx hb dX13_holder_38 rfl (lv_at hl 3 rfl) ?_
            refine va_get (D := (dC, dI)) (ci := 13) (v := .ref qf108) (C := RX13) (T := TX13) (N := 155) hx hb hts uV_h9_X13 hown hK hP 0 rfl rfl 108 (by decide) (hts (.fieldLink RX13 233 "ClassMillModel" "methodMany" "[I") mw_h9_281) (fun _ h9 => h9) hfh_6_108 dX13_holder_39 ?_
            refine lv_iload hx hb dX13_holder_42 (lv_at hl 0 rfl) ?_
            obtain ⟨hi_7, hsp⟩ := ox_in hsp
            refine va_iald hx hb hK hP 6 5 rfl rfl (i := (l5_6 - 8)) hi_7 dX13_holder_44 ?_
            refine lv_goto (tgt := 55) hx hb dX13_holder_45 (by decide) ?_
            exact hj_55 (H, locs, ls, z6, l2_6, l3_6, l4_6, l5_6, l6_6, (l5_6 - 8), (f108 ((l5_6 - 8) : Int32).toNatClampNeg), x121_6) ⟨lv_sub hl [3, 4, 5, 6, 2, 1, 0] rfl, hS, hD.sub (ws' := [(h0, .inr (13, z6)), (qf105, .inl (cf105, 8, .inl f105)), (qf102, .inl (cf102, 2048, .inl f102)), (qf100, .inl (cf100, 48000, .inl f100)), (qf104, .inl (cf104, 8, .inl f104)), (qf106, .inl (cf106, 8, .inl f106)), (qf108, .inl (cf108, 8, .inl f108)), (qf107, .inl (cf107, 96, .inl f107)), (qf109, .inl (cf109, 96, .inl f109))]) [0, 1, 2, 3, 4, 5, 6, 7, 8] (by decide) rfl, hP.sub (ws' := [(h0, .inr (13, z6)), (qf105, .inl (cf105, 8, .inl f105)), (qf102, .inl (cf102, 2048, .inl f102)), (qf100, .inl (cf100, 48000, .inl f100)), (qf104, .inl (cf104, 8, .inl f104)), (qf106, .inl (cf106, 8, .inl f106)), (qf108, .inl (cf108, 8, .inl f108)), (qf107, .inl (cf107, 96, .inl f107)), (qf109, .inl (cf109, 96, .inl f109))]) [0, 1, 2, 3, 4, 5, 6, 7, 8] rfl, hfh_6_98, hfh_6_100, hfh_6_102, hfh_6_104, hfh_6_105, hfh_6_106, hfh_6_107, hfh_6_108, hfh_6_109, hfh_6_121, hlh_6, hrh_6, hsp⟩
def jn_vm_kindsAreThere_119 (nf : Nat) (a1 : Int32) (v98 : Int32) (v117 : Int32) (v120 : Int32) (f106 : Nat → Int32) (f107 : Nat → Int32) (f100 : Nat → Int32) (f109 : Nat → Int32) (f102 : Nat → Int32) (f104 : Nat → Int32) (f118 : Nat → Int32) (f119 : Nat → Int32) (f108 : Nat → Int32) (nS477 : Nat) (fS477 : Nat → Int32) (kk_42 : Int32 → Int32 → Int32 → (Nat → Int32) → (Nat → Int32) → Int32 → Int32 → Option (Int32 × (Nat → Int32) × (Nat → Int32) × Int32 × Int32)) (l1_119 : Int32) (l2_119 : Int32) (l3_119 : Int32) (l4_119 : Int32) (g118_119 : Nat → Int32) (g119_119 : Nat → Int32) (x117_119 : Int32) (x120_119 : Int32) : Option (Int32 × (Nat → Int32) × (Nat → Int32) × Int32 × Int32) := (if l2_119 = 0 then (kk_42 l1_119 0 (l3_119 + 1) g118_119 g119_119 x117_119 x120_119) else ((sp_vm_typeAt nf (l4_119 + 1) v98 x117_119 f100 f104 f102 g118_119 g119_119 nS477 fS477).bind (fun p1 => ((sp_tm_isThere nf p1.1).bind (fun p2 => (if p2 = 0 then (kk_42 l1_119 0 (l3_119 + 1) p1.2.1 p1.2.2.1 p1.2.2.2.1 p1.2.2.2.2) else (kk_42 l1_119 1 (l3_119 + 1) p1.2.1 p1.2.2.1 p1.2.2.2.1 p1.2.2.2.2)))))))
def lp_vm_kindsAreThere_84 (nf n : Nat) (a1 : Int32) (v98 : Int32) (v117 : Int32) (v120 : Int32) (f106 : Nat → Int32) (f107 : Nat → Int32) (f100 : Nat → Int32) (f109 : Nat → Int32) (f102 : Nat → Int32) (f104 : Nat → Int32) (f118 : Nat → Int32) (f119 : Nat → Int32) (f108 : Nat → Int32) (nS477 : Nat) (fS477 : Nat → Int32) (kk_42 : Int32 → Int32 → Int32 → (Nat → Int32) → (Nat → Int32) → Int32 → Int32 → Option (Int32 × (Nat → Int32) × (Nat → Int32) × Int32 × Int32)) (l1_84 : Int32) (l2_84 : Int32) (l3_84 : Int32) (l4_84 : Int32) (g118_84 : Nat → Int32) (g119_84 : Nat → Int32) (x117_84 : Int32) (x120_84 : Int32) : Option (Int32 × (Nat → Int32) × (Nat → Int32) × Int32 × Int32) := match n with
  | 0 => none
  | n + 1 => (if l4_84 < 0 then none else if 48000 ≤ (l4_84 : Int32).toNatClampNeg then none else (if (f100 (l4_84 : Int32).toNatClampNeg) = 41 then (jn_vm_kindsAreThere_119 nf a1 v98 v117 v120 f106 f107 f100 f109 f102 f104 f118 f119 f108 nS477 fS477 kk_42 l1_84 l2_84 l3_84 l4_84 g118_84 g119_84 x117_84 x120_84) else (if l2_84 = 0 then (jn_vm_kindsAreThere_119 nf a1 v98 v117 v120 f106 f107 f100 f109 f102 f104 f118 f119 f108 nS477 fS477 kk_42 l1_84 l2_84 l3_84 l4_84 g118_84 g119_84 x117_84 x120_84) else ((sp_vm_typeAt nf l4_84 v98 x117_84 f100 f104 f102 g118_84 g119_84 nS477 fS477).bind (fun p1 => ((sp_tm_isThere nf p1.1).bind (fun p2 => (if p2 = 0 then (lp_vm_kindsAreThere_84 nf n a1 v98 v117 v120 f106 f107 f100 f109 f102 f104 f118 f119 f108 nS477 fS477 kk_42 l1_84 0 l3_84 p1.2.2.2.2 p1.2.1 p1.2.2.1 p1.2.2.2.1 p1.2.2.2.2) else (lp_vm_kindsAreThere_84 nf n a1 v98 v117 v120 f106 f107 f100 f109 f102 f104 f118 f119 f108 nS477 fS477 kk_42 l1_84 1 l3_84 p1.2.2.2.2 p1.2.1 p1.2.2.1 p1.2.2.2.1 p1.2.2.2.2)))))))))
def lp_vm_kindsAreThere_42 (nf n : Nat) (a1 : Int32) (v98 : Int32) (v117 : Int32) (v120 : Int32) (f106 : Nat → Int32) (f107 : Nat → Int32) (f100 : Nat → Int32) (f109 : Nat → Int32) (f102 : Nat → Int32) (f104 : Nat → Int32) (f118 : Nat → Int32) (f119 : Nat → Int32) (f108 : Nat → Int32) (nS477 : Nat) (fS477 : Nat → Int32)  (l1_42 : Int32) (l2_42 : Int32) (l3_42 : Int32) (g118_42 : Nat → Int32) (g119_42 : Nat → Int32) (x117_42 : Int32) (x120_42 : Int32) : Option (Int32 × (Nat → Int32) × (Nat → Int32) × Int32 × Int32) := match n with
  | 0 => none
  | n + 1 => (if l1_42 < 0 then none else if 8 ≤ (l1_42 : Int32).toNatClampNeg then none else (if (f108 (l1_42 : Int32).toNatClampNeg) ≤ l3_42 then (if l2_42 = 0 then (some (0, g118_42, g119_42, x117_42, x120_42)) else if l2_42 = 1 then (some (1, g118_42, g119_42, x117_42, x120_42)) else none) else (if l2_42 = 0 then (if l2_42 = 0 then (some (0, g118_42, g119_42, x117_42, x120_42)) else if l2_42 = 1 then (some (1, g118_42, g119_42, x117_42, x120_42)) else none) else ((sp_tm_kindText nf l1_42 l3_42 1 f107 f100 f109).bind (fun p1 => (if ((256 * l1_42) + p1) < 0 then none else if 2048 ≤ (((256 * l1_42) + p1) : Int32).toNatClampNeg then none else (lp_vm_kindsAreThere_84 nf nf a1 v98 v117 v120 f106 f107 f100 f109 f102 f104 f118 f119 f108 nS477 fS477 (lp_vm_kindsAreThere_42 nf n a1 v98 v117 v120 f106 f107 f100 f109 f102 f104 f118 f119 f108 nS477 fS477) l1_42 l2_42 l3_42 (((6000 * l1_42) + (f102 (((256 * l1_42) + p1) : Int32).toNatClampNeg)) + 3) g118_42 g119_42 x117_42 x120_42)))))))
def jn_vm_kindsAreThere_40 (nf : Nat) (a1 : Int32) (v98 : Int32) (v117 : Int32) (v120 : Int32) (f106 : Nat → Int32) (f107 : Nat → Int32) (f100 : Nat → Int32) (f109 : Nat → Int32) (f102 : Nat → Int32) (f104 : Nat → Int32) (f118 : Nat → Int32) (f119 : Nat → Int32) (f108 : Nat → Int32) (nS477 : Nat) (fS477 : Nat → Int32)  (l1_40 : Int32) (l2_40 : Int32) (g118_40 : Nat → Int32) (g119_40 : Nat → Int32) (x117_40 : Int32) (x120_40 : Int32) : Option (Int32 × (Nat → Int32) × (Nat → Int32) × Int32 × Int32) := (lp_vm_kindsAreThere_42 nf nf a1 v98 v117 v120 f106 f107 f100 f109 f102 f104 f118 f119 f108 nS477 fS477  l1_40 l2_40 0 g118_40 g119_40 x117_40 x120_40)
def lp_vm_kindsAreThere_4 (nf n : Nat) (a1 : Int32) (v98 : Int32) (v117 : Int32) (v120 : Int32) (f106 : Nat → Int32) (f107 : Nat → Int32) (f100 : Nat → Int32) (f109 : Nat → Int32) (f102 : Nat → Int32) (f104 : Nat → Int32) (f118 : Nat → Int32) (f119 : Nat → Int32) (f108 : Nat → Int32) (nS477 : Nat) (fS477 : Nat → Int32)  (l1_4 : Int32) (l2_4 : Int32) (l3_4 : Int32) (g118_4 : Nat → Int32) (g119_4 : Nat → Int32) (x117_4 : Int32) (x120_4 : Int32) : Option (Int32 × (Nat → Int32) × (Nat → Int32) × Int32 × Int32) := match n with
  | 0 => none
  | n + 1 => (if l1_4 < 0 then none else if 8 ≤ (l1_4 : Int32).toNatClampNeg then none else (if (f106 (l1_4 : Int32).toNatClampNeg) ≤ l3_4 then (jn_vm_kindsAreThere_40 nf a1 v98 v117 v120 f106 f107 f100 f109 f102 f104 f118 f119 f108 nS477 fS477  l1_4 l2_4 g118_4 g119_4 x117_4 x120_4) else (if l2_4 = 0 then (jn_vm_kindsAreThere_40 nf a1 v98 v117 v120 f106 f107 f100 f109 f102 f104 f118 f119 f108 nS477 fS477  l1_4 l2_4 g118_4 g119_4 x117_4 x120_4) else ((sp_tm_kindText nf l1_4 l3_4 0 f107 f100 f109).bind (fun p1 => ((sp_vm_kindType nf l1_4 p1 v98 x117_4 f102 f100 f104 g118_4 g119_4 nS477 fS477).bind (fun p2 => ((sp_tm_isThere nf p2.1).bind (fun p3 => (if p3 = 0 then (lp_vm_kindsAreThere_4 nf n a1 v98 v117 v120 f106 f107 f100 f109 f102 f104 f118 f119 f108 nS477 fS477 l1_4 0 (l3_4 + 1) p2.2.1 p2.2.2.1 p2.2.2.2.1 p2.2.2.2.2) else (lp_vm_kindsAreThere_4 nf n a1 v98 v117 v120 f106 f107 f100 f109 f102 f104 f118 f119 f108 nS477 fS477 l1_4 1 (l3_4 + 1) p2.2.1 p2.2.2.1 p2.2.2.2.1 p2.2.2.2.2)))))))))))
def sp_vm_kindsAreThere (nf : Nat) (a1 : Int32) (v98 : Int32) (v117 : Int32) (v120 : Int32) (f106 : Nat → Int32) (f107 : Nat → Int32) (f100 : Nat → Int32) (f109 : Nat → Int32) (f102 : Nat → Int32) (f104 : Nat → Int32) (f118 : Nat → Int32) (f119 : Nat → Int32) (f108 : Nat → Int32) (nS477 : Nat) (fS477 : Nat → Int32) : Option (Int32 × (Nat → Int32) × (Nat → Int32) × Int32 × Int32) := (lp_vm_kindsAreThere_4 nf nf a1 v98 v117 v120 f106 f107 f100 f109 f102 f104 f118 f119 f108 nS477 fS477  a1 1 0 f118 f119 v117 v120)
