set_option maxHeartbeats 4000000 in
set_option maxRecDepth 100000 in
/-- ClassMillModel.framed -/
theorem vm_framed (l : Launch) (dC : Nat → ClassId) (dI : Nat → Nat → Nat) (sz : Nat) (h0 : Nat) (zs : (List Value)) (a1 : Int32) (v98 : Int32) (qf100 : Nat) (qf102 : Nat) (qf104 : Nat) (v117 : Int32) (qf118 : Nat) (qf119 : Nat) (v120 : Int32) (v132 : Int32) (cf100 : ClassId) (f100 : (Nat → Int32)) (cf102 : ClassId) (f102 : (Nat → Int32)) (cf104 : ClassId) (f104 : (Nat → Int32)) (cf118 : ClassId) (f118 : (Nat → Int32)) (cf119 : ClassId) (f119 : (Nat → Int32)) (nS477 : Nat) (fS477 : (Nat → Int32)) (hS477 : Nat) (qS477 : Nat) (tS477 : String) (nf : Nat) (r0 : Int32) (o118 : (Nat → Int32)) (o119 : (Nat → Int32)) (w117 : Int32) (w120 : Int32) (hlen : zs.length = 155) (hf98 : zs[98]? = some (.int v98)) (hf100 : zs[100]? = some (.ref qf100)) (hf102 : zs[102]? = some (.ref qf102)) (hf104 : zs[104]? = some (.ref qf104)) (hf117 : zs[117]? = some (.int v117)) (hf118 : zs[118]? = some (.ref qf118)) (hf119 : zs[119]? = some (.ref qf119)) (hf120 : zs[120]? = some (.int v120)) (hf132 : zs[132]? = some (.int v132)) (hsp : sp_vm_framed nf a1 v98 v117 v120 v132 f100 f102 f104 f118 f119 nS477 fS477 = some (r0, o118, o119, w117, w120)) : Met l yX13_framed (.code yX13_framed cX13_framed 2 (some .int) :: VS_h9) ({ frames := 9, cells := 0, slots := 0, locals := 211 }) (va_Pc [.ref h0, .int a1] (fun U => U.heap.size = sz ∧ va_P (dC, dI) vwCl [(h0, .inr (13, zs)), (qf100, .inl (cf100, 48000, .inl f100)), (qf102, .inl (cf102, 2048, .inl f102)), (qf104, .inl (cf104, 8, .inl f104)), (qf118, .inl (cf118, 2100, .inl f118)), (qf119, .inl (cf119, 2100, .inl f119))] U.heap ∧ va_K (dC, dI) vwCl [(cf100, .int), (cf102, .int), (cf104, .int), (cf118, .int), (cf119, .int)] U ∧ va_D (fun _ => True) [(h0, .inr (13, zs)), (qf100, .inl (cf100, 48000, .inl f100)), (qf102, .inl (cf102, 2048, .inl f102)), (qf104, .inl (cf104, 8, .inl f104)), (qf118, .inl (cf118, 2100, .inl f118)), (qf119, .inl (cf119, 2100, .inl f119))] ∧ pz_W nS477 fS477 hS477 qS477 (va_A [(h0, .inr (13, zs)), (qf100, .inl (cf100, 48000, .inl f100)), (qf102, .inl (cf102, 2048, .inl f102)), (qf104, .inl (cf104, 8, .inl f104)), (qf118, .inl (cf118, 2100, .inl f118)), (qf119, .inl (cf119, 2100, .inl f119))] sz) U U.heap ∧ vk_R RX13 477 tS477 hS477 U)) (va_Qi (fun (r : Int32) (u : (List Value)) => match u with | (zo1) => r0 = r ∧ zo1.length = 155 ∧ (∀ j : Nat, j ≠ 117 → j ≠ 120 → zo1[j]? = zs[j]?) ∧ zo1[117]? = some (.int w117) ∧ zo1[120]? = some (.int w120)) (fun (u : (List Value)) (t : State) => match u with | (zo1) => va_P (dC, dI) vwCl [(h0, .inr (13, zo1)), (qf100, .inl (cf100, 48000, .inl f100)), (qf102, .inl (cf102, 2048, .inl f102)), (qf104, .inl (cf104, 8, .inl f104)), (qf118, .inl (cf118, 2100, .inl o118)), (qf119, .inl (cf119, 2100, .inl o119))] t.heap ∧ va_K (dC, dI) vwCl [(cf100, .int), (cf102, .int), (cf104, .int), (cf118, .int), (cf119, .int)] t ∧ va_D (va_A [(h0, .inr (13, zs)), (qf100, .inl (cf100, 48000, .inl f100)), (qf102, .inl (cf102, 2048, .inl f102)), (qf104, .inl (cf104, 8, .inl f104)), (qf118, .inl (cf118, 2100, .inl f118)), (qf119, .inl (cf119, 2100, .inl f119))] sz) [(h0, .inr (13, zo1)), (qf100, .inl (cf100, 48000, .inl f100)), (qf102, .inl (cf102, 2048, .inl f102)), (qf104, .inl (cf104, 8, .inl f104)), (qf118, .inl (cf118, 2100, .inl o118)), (qf119, .inl (cf119, 2100, .inl o119))]) (va_A [(h0, .inr (13, zs)), (qf100, .inl (cf100, 48000, .inl f100)), (qf102, .inl (cf102, 2048, .inl f102)), (qf104, .inl (cf104, 8, .inl f104)), (qf118, .inl (cf118, 2100, .inl f118)), (qf119, .inl (cf119, 2100, .inl f119))] sz)) 0 0 (va_A [(h0, .inr (13, zs)), (qf100, .inl (cf100, 48000, .inl f100)), (qf102, .inl (cf102, 2048, .inl f102)), (qf104, .inl (cf104, 8, .inl f104)), (qf118, .inl (cf118, 2100, .inl f118)), (qf119, .inl (cf119, 2100, .inl f119))] sz) := by
  refine Met.ofW (cc := cX13_framed) (maxL := 2) (ret := (some .int)) (by decide) rfl ?_
  intro p e s m args below meth c s₁ B hml hv
  obtain ⟨rfl, hsz, hP, hK, hD0, hZWS477, hZRS477⟩ := hv
  have hx := B.exec
  have hb := B.bytes
  have hr := B.returns
  have hts := atoms_spec (ws := (.code yX13_framed cX13_framed 2 (some .int) :: VS_h9)) B.pre
  replace hts := fun w (h : w ∈ VS_h9) => hts w (List.mem_cons_of_mem _ h)
  have hown : s.vm.findClass RX13 = some m.cls := findClass_of_methodNamed B.named
  have hlocks := B.notSynchronized
  subst hsz
  have hD := hD0.self (sz := s.heap.size)
  generalize hAe : va_A [(h0, .inr (13, zs)), (qf100, .inl (cf100, 48000, .inl f100)), (qf102, .inl (cf102, 2048, .inl f102)), (qf104, .inl (cf104, 8, .inl f104)), (qf118, .inl (cf118, 2100, .inl f118)), (qf119, .inl (cf119, 2100, .inl f119))] s.heap.size = A at hD hZWS477 ⊢
  have hA : ∀ q : Nat, s.heap.size ≤ q → A q := fun q h => by rw [← hAe]; exact Or.inr h
  have hP : va_P (dC, dI) vwCl [(h0, .inr (13, zs)), (qf100, .inl (cf100, 48000, .inl f100)), (qf102, .inl (cf102, 2048, .inl f102)), (qf104, .inl (cf104, 8, .inl f104)), (qf118, .inl (cf118, 2100, .inl f118)), (qf119, .inl (cf119, 2100, .inl f119))] s.heap := hP
  have hl := lv_entry ([.ref h0, .int a1]) (n := 2) (Nat.le_of_ble_eq_true rfl)
  rw [lg_entry_eq]
  generalize (lg_sl ([.ref h0, .int a1]) ++ List.replicate (2 - (lg_sl ([.ref h0, .int a1])).length) Slot.unset).toArray = ls at hl ⊢
  have hl : lv_has ls 2 [(0, .ref h0), (1, .int a1)] := hl
  obtain ⟨H, hH⟩ : ∃ H : Heap, s.heap = H := ⟨_, rfl⟩
  rw [hH] at hP ⊢
  have hS : va_S A s.heap H [] := by rw [← hH]; exact va_S.rf
  obtain ⟨locs, hlo⟩ : ∃ locs : List Loc, locs = [] := ⟨_, rfl⟩
  rw [← hlo] at hS ⊢
  have hrs0 : ∀ j : Nat, j ≠ 117 → j ≠ 120 → zs[j]? = zs[j]? := fun _ _ _  => rfl
  unfold sp_vm_framed at hsp
  refine lv_aload_n hx hb dX13_framed_0 rfl (lv_at hl 0 rfl) ?_
  refine lv_aload_n hx hb dX13_framed_1 rfl (lv_at hl 0 rfl) ?_
  refine va_get (D := (dC, dI)) (ci := 13) (v := .int v132) (C := RX13) (T := TX13) (N := 155) hx hb hts uV_h9_X13 hown hK hP 0 rfl rfl 132 (by decide) (hts (.fieldLink RX13 932 "ClassMillModel" "inClass" "I") mw_h9_533) (fun _ h9 => h9) hf132 dX13_framed_2 ?_
  refine lv_iload_n hx hb dX13_framed_5 rfl (lv_at hl 1 rfl) ?_
  obtain ⟨u1_0, hu_1, hsp⟩ := ox_bind hsp
  try dsimp only at hsp
  have hPc := hP.sub (ws' := [(h0, .inr (13, zs)), (qf100, .inl (cf100, 48000, .inl f100))]) [0, 1] rfl
  have hDc := hD.sub (ws' := [(h0, .inr (13, zs)), (qf100, .inl (cf100, 48000, .inl f100))]) [0, 1] (by decide) rfl
  have hKc := hK.sub (tys' := [(cf100, .int)]) [0] rfl
  have hFc := va_free (wc := [(h0, .inr (13, zs)), (qf100, .inl (cf100, 48000, .inl f100))]) hD hS hA [0, 1] rfl
  refine va_calli (va_runV (As := [.int v132, .int a1]) (rest := []) ⟨hx, hb, hml, hown, hts⟩ (tm_byteAt l dC dI H.size h0 zs v132 a1 qf100 cf100 f100 nf u1_0 hlen hf100 hu_1) (cwV 2 hts gv_h9_58 rfl rfl rfl (by decide +kernel) ⟨Nat.le_of_ble_eq_true rfl, Nat.le_of_ble_eq_true rfl⟩) ⟨fun a U g mk q => by obtain ⟨q0, q1, qP, qK, qD⟩ := q; exact ⟨q0, q1, qP, va_K.moved (u := U) (U := U.calling g mk a) (Vm.Alike.refl U.vm) qK, qD⟩, va_recv hKc hPc (ci := 13) (q0 := 0) rfl rfl, fun U hU hW => ⟨rfl, by rw [hU], by rw [hU]; exact hPc, va_K.moved hW.alike hKc, hDc.weaken (fun _ _ _ _ => trivial)⟩⟩ rfl rfl hl.1 rfl (lv_room (Nat.le_of_ble_eq_true rfl)) dX13_framed_6 ⟨Nat.le_of_ble_eq_true rfl, Nat.le_of_ble_eq_true rfl⟩) hS (fun q _ h => hFc q h) hFc ?_
  clear hS
  intro r_1 u t H1 locs ht hvm hw hB hz1 hk1 hS
  obtain ⟨z_1, rfl⟩ : ∃ z, z = u := ⟨_, rfl⟩
  obtain ⟨hP1, hK1, hD1⟩ := hB
  rw [ht] at hP1
  have hK1 := va_K.moved hvm.symm hK1
  try dsimp only at hw
  have hPD := va_join (wr := [(qf102, .inl (cf102, 2048, .inl f102)), (qf104, .inl (cf104, 8, .inl f104)), (qf118, .inl (cf118, 2100, .inl f118)), (qf119, .inl (cf119, 2100, .inl f119))]) (w1 := [(h0, .inr (13, z_1)), (qf100, .inl (cf100, 48000, .inl f100))]) hP hD [0, 1] [2, 3, 4, 5] rfl rfl (by decide) (by decide) hk1 hFc hP1 hD1
  clear hP hD
  obtain ⟨hP, hD⟩ := hPD
  replace hK := (hK.sub (tys' := [(cf102, .int), (cf104, .int), (cf118, .int), (cf119, .int)]) [1, 2, 3, 4] rfl).app hK1
  clear hPc hDc hKc hFc hP1 hK1 hD1 hz1 hk1 ht hvm
  generalize H1 = H at hP hS ⊢
  replace hP : va_P (dC, dI) vwCl [(qf102, .inl (cf102, 2048, .inl f102)), (qf104, .inl (cf104, 8, .inl f104)), (qf118, .inl (cf118, 2100, .inl f118)), (qf119, .inl (cf119, 2100, .inl f119)), (h0, .inr (13, z_1)), (qf100, .inl (cf100, 48000, .inl f100))] H := hP
  replace hD : va_D A [(qf102, .inl (cf102, 2048, .inl f102)), (qf104, .inl (cf104, 8, .inl f104)), (qf118, .inl (cf118, 2100, .inl f118)), (qf119, .inl (cf119, 2100, .inl f119)), (h0, .inr (13, z_1)), (qf100, .inl (cf100, 48000, .inl f100))] := hD
  replace hK : va_K (dC, dI) vwCl [(cf102, .int), (cf104, .int), (cf118, .int), (cf119, .int), (cf100, .int)] s := hK
  obtain ⟨hwa_1, hln_1, hre_1⟩ := hw
  have hfk_1_98 : z_1[98]? = some (.int v98) := (hre_1 98 ).trans (hf98)
  have hfk_1_100 : z_1[100]? = some (.ref qf100) := (hre_1 100 ).trans (hf100)
  have hfk_1_102 : z_1[102]? = some (.ref qf102) := (hre_1 102 ).trans (hf102)
  have hfk_1_104 : z_1[104]? = some (.ref qf104) := (hre_1 104 ).trans (hf104)
  have hfk_1_117 : z_1[117]? = some (.int v117) := (hre_1 117 ).trans (hf117)
  have hfk_1_118 : z_1[118]? = some (.ref qf118) := (hre_1 118 ).trans (hf118)
  have hfk_1_119 : z_1[119]? = some (.ref qf119) := (hre_1 119 ).trans (hf119)
  have hfk_1_120 : z_1[120]? = some (.int v120) := (hre_1 120 ).trans (hf120)
  have hfk_1_132 : z_1[132]? = some (.int v132) := (hre_1 132 ).trans (hf132)
  have hrq_1 : ∀ j : Nat, j ≠ 117 → j ≠ 120 → z_1[j]? = zs[j]? := fun j g117 g120 => (hre_1 j ).trans (hrs0 j g117 g120)
  obtain rfl := hwa_1
  refine lv_iconst (v := 3) hx hb dX13_framed_9 (by decide) ?_
  refine lv_icmp_ge (tgt := 25) hx hb dX13_framed_10 (by decide) (fun c_2 => ?_) (fun c_2 => ?_)
  · rw [if_pos c_2] at hsp
    refine lv_aload_n hx hb dX13_framed_25 rfl (lv_at hl 0 rfl) ?_
    refine lv_aload_n hx hb dX13_framed_26 rfl (lv_at hl 0 rfl) ?_
    refine va_get (D := (dC, dI)) (ci := 13) (v := .int v132) (C := RX13) (T := TX13) (N := 155) hx hb hts uV_h9_X13 hown hK hP 4 rfl rfl 132 (by decide) (hts (.fieldLink RX13 932 "ClassMillModel" "inClass" "I") mw_h9_533) (fun _ h9 => h9) hfk_1_132 dX13_framed_27 ?_
    refine lv_aload_n hx hb dX13_framed_30 rfl (lv_at hl 0 rfl) ?_
    refine lv_aload_n hx hb dX13_framed_31 rfl (lv_at hl 0 rfl) ?_
    refine va_get (D := (dC, dI)) (ci := 13) (v := .int v132) (C := RX13) (T := TX13) (N := 155) hx hb hts uV_h9_X13 hown hK hP 4 rfl rfl 132 (by decide) (hts (.fieldLink RX13 932 "ClassMillModel" "inClass" "I") mw_h9_533) (fun _ h9 => h9) hfk_1_132 dX13_framed_32 ?_
    refine lv_iload_n hx hb dX13_framed_35 rfl (lv_at hl 1 rfl) ?_
    refine lv_iconst (v := 1) hx hb dX13_framed_36 (by decide) ?_
    refine lv_iadd hx hb dX13_framed_37 ?_
    obtain ⟨u2_0, hu_2, hsp⟩ := ox_bind hsp
    try dsimp only at hsp
    have hPc := hP.sub (ws' := [(h0, .inr (13, z_1)), (qf100, .inl (cf100, 48000, .inl f100))]) [4, 5] rfl
    have hDc := hD.sub (ws' := [(h0, .inr (13, z_1)), (qf100, .inl (cf100, 48000, .inl f100))]) [4, 5] (by decide) rfl
    have hKc := hK.sub (tys' := [(cf100, .int)]) [4] rfl
    have hFc := va_free (wc := [(h0, .inr (13, z_1)), (qf100, .inl (cf100, 48000, .inl f100))]) hD hS hA [4, 5] rfl
    refine va_calli (va_runV (As := [.int v132, .int (a1 + 1)]) (rest := [.int v132, .ref h0]) ⟨hx, hb, hml, hown, hts⟩ (tm_byteAt l dC dI H.size h0 z_1 v132 ((a1 + 1)) qf100 cf100 f100 nf u2_0 hln_1 hfk_1_100 hu_2) (cwV 2 hts gv_h9_58 rfl rfl rfl (by decide +kernel) ⟨Nat.le_of_ble_eq_true rfl, Nat.le_of_ble_eq_true rfl⟩) ⟨fun a U g mk q => by obtain ⟨q0, q1, qP, qK, qD⟩ := q; exact ⟨q0, q1, qP, va_K.moved (u := U) (U := U.calling g mk a) (Vm.Alike.refl U.vm) qK, qD⟩, va_recv hKc hPc (ci := 13) (q0 := 0) rfl rfl, fun U hU hW => ⟨rfl, by rw [hU], by rw [hU]; exact hPc, va_K.moved hW.alike hKc, hDc.weaken (fun _ _ _ _ => trivial)⟩⟩ rfl rfl hl.1 rfl (lv_room (Nat.le_of_ble_eq_true rfl)) dX13_framed_38 ⟨Nat.le_of_ble_eq_true rfl, Nat.le_of_ble_eq_true rfl⟩) hS (fun q _ h => hFc q h) hFc ?_
    clear hS
    intro r_3 u t H1 locs ht hvm hw hB hz1 hk1 hS
    obtain ⟨z_2, rfl⟩ : ∃ z, z = u := ⟨_, rfl⟩
    obtain ⟨hP1, hK1, hD1⟩ := hB
    rw [ht] at hP1
    have hK1 := va_K.moved hvm.symm hK1
    try dsimp only at hw
    have hPD := va_join (wr := [(qf102, .inl (cf102, 2048, .inl f102)), (qf104, .inl (cf104, 8, .inl f104)), (qf118, .inl (cf118, 2100, .inl f118)), (qf119, .inl (cf119, 2100, .inl f119))]) (w1 := [(h0, .inr (13, z_2)), (qf100, .inl (cf100, 48000, .inl f100))]) hP hD [4, 5] [0, 1, 2, 3] rfl rfl (by decide) (by decide) hk1 hFc hP1 hD1
    clear hP hD
    obtain ⟨hP, hD⟩ := hPD
    replace hK := (hK.sub (tys' := [(cf102, .int), (cf104, .int), (cf118, .int), (cf119, .int)]) [0, 1, 2, 3] rfl).app hK1
    clear hPc hDc hKc hFc hP1 hK1 hD1 hz1 hk1 ht hvm
    generalize H1 = H at hP hS ⊢
    replace hP : va_P (dC, dI) vwCl [(qf102, .inl (cf102, 2048, .inl f102)), (qf104, .inl (cf104, 8, .inl f104)), (qf118, .inl (cf118, 2100, .inl f118)), (qf119, .inl (cf119, 2100, .inl f119)), (h0, .inr (13, z_2)), (qf100, .inl (cf100, 48000, .inl f100))] H := hP
    replace hD : va_D A [(qf102, .inl (cf102, 2048, .inl f102)), (qf104, .inl (cf104, 8, .inl f104)), (qf118, .inl (cf118, 2100, .inl f118)), (qf119, .inl (cf119, 2100, .inl f119)), (h0, .inr (13, z_2)), (qf100, .inl (cf100, 48000, .inl f100))] := hD
    replace hK : va_K (dC, dI) vwCl [(cf102, .int), (cf104, .int), (cf118, .int), (cf119, .int), (cf100, .int)] s := hK
    obtain ⟨hwa_2, hln_2, hre_2⟩ := hw
    have hfk_2_98 : z_2[98]? = some (.int v98) := (hre_2 98 ).trans (hfk_1_98)
    have hfk_2_100 : z_2[100]? = some (.ref qf100) := (hre_2 100 ).trans (hfk_1_100)
    have hfk_2_102 : z_2[102]? = some (.ref qf102) := (hre_2 102 ).trans (hfk_1_102)
    have hfk_2_104 : z_2[104]? = some (.ref qf104) := (hre_2 104 ).trans (hfk_1_104)
    have hfk_2_117 : z_2[117]? = some (.int v117) := (hre_2 117 ).trans (hfk_1_117)
    have hfk_2_118 : z_2[118]? = some (.ref qf118) := (hre_2 118 ).trans (hfk_1_118)
    have hfk_2_119 : z_2[119]? = some (.ref qf119) := (hre_2 119 ).trans (hfk_1_119)
    have hfk_2_120 : z_2[120]? = some (.int v120) := (hre_2 120 ).trans (hfk_1_120)
    have hfk_2_132 : z_2[132]? = some (.int v132) := (hre_2 132 ).trans (hfk_1_132)
    have hrq_2 : ∀ j : Nat, j ≠ 117 → j ≠ 120 → z_2[j]? = zs[j]? := fun j g117 g120 => (hre_2 j ).trans (hrq_1 j g117 g120)
    obtain rfl := hwa_2
    obtain ⟨⟨u3_0, g903_1, g903_2, u3_3, u3_4⟩, hu_3, hsp⟩ := ox_bind hsp
    try dsimp only at hsp
    have hPc := hP.sub (ws' := [(h0, .inr (13, z_2)), (qf102, .inl (cf102, 2048, .inl f102)), (qf100, .inl (cf100, 48000, .inl f100)), (qf104, .inl (cf104, 8, .inl f104)), (qf118, .inl (cf118, 2100, .inl f118)), (qf119, .inl (cf119, 2100, .inl f119))]) [4, 0, 5, 1, 2, 3] rfl
    have hDc := hD.sub (ws' := [(h0, .inr (13, z_2)), (qf102, .inl (cf102, 2048, .inl f102)), (qf100, .inl (cf100, 48000, .inl f100)), (qf104, .inl (cf104, 8, .inl f104)), (qf118, .inl (cf118, 2100, .inl f118)), (qf119, .inl (cf119, 2100, .inl f119))]) [4, 0, 5, 1, 2, 3] (by decide) rfl
    have hKc := hK.sub (tys' := [(cf102, .int), (cf100, .int), (cf104, .int), (cf118, .int), (cf119, .int)]) [0, 4, 1, 2, 3] rfl
    have hFc := va_free (wc := [(h0, .inr (13, z_2)), (qf102, .inl (cf102, 2048, .inl f102)), (qf100, .inl (cf100, 48000, .inl f100)), (qf104, .inl (cf104, 8, .inl f104)), (qf118, .inl (cf118, 2100, .inl f118)), (qf119, .inl (cf119, 2100, .inl f119))]) hD hS hA [4, 0, 5, 1, 2, 3] rfl
    refine va_calli (va_runV (As := [.int v132, .int u2_0]) (rest := []) ⟨hx, hb, hml, hown, hts⟩ (vm_typeOfClass l dC dI H.size h0 z_2 v132 u2_0 v98 qf100 qf102 qf104 v117 qf118 qf119 v120 cf102 f102 cf100 f100 cf104 f104 cf118 f118 cf119 f119 nS477 fS477 hS477 qS477 tS477 nf u3_0 g903_1 g903_2 u3_3 u3_4 hln_2 hfk_2_98 hfk_2_100 hfk_2_102 hfk_2_104 hfk_2_117 hfk_2_118 hfk_2_119 hfk_2_120 hu_3) (cwV 2 hts gv_h9_108 rfl rfl rfl (by decide +kernel) ⟨Nat.le_of_ble_eq_true rfl, Nat.le_of_ble_eq_true rfl⟩) ⟨fun a U g mk q => by obtain ⟨q0, q1, qP, qK, qD, qhZWS477, qhZRS477⟩ := q; exact ⟨q0, q1, qP, va_K.moved (u := U) (U := U.calling g mk a) (Vm.Alike.refl U.vm) qK, qD, pz_W.moved (u := U) (U := U.calling g mk a) (Vm.Alike.refl U.vm) qhZWS477, vk_R.same rfl qhZRS477⟩, va_recv hKc hPc (ci := 13) (q0 := 0) rfl rfl, fun U hU hW => ⟨rfl, by rw [hU], by rw [hU]; exact hPc, va_K.moved hW.alike hKc, hDc.weaken (fun _ _ _ _ => trivial), by rw [hU]; exact ((pz_W.moved hW.alike hZWS477).kept hS.2.1).narrow hFc, vk_R.warm hW hZRS477⟩⟩ rfl rfl hl.1 rfl (lv_room (Nat.le_of_ble_eq_true rfl)) dX13_framed_41 ⟨Nat.le_of_ble_eq_true rfl, Nat.le_of_ble_eq_true rfl⟩) hS (fun q _ h => hFc q h) hFc ?_
    clear hS
    intro r_4 u t H1 locs ht hvm hw hB hz1 hk1 hS
    obtain ⟨z_3, rfl⟩ : ∃ z, z = u := ⟨_, rfl⟩
    obtain ⟨hP1, hK1, hD1⟩ := hB
    rw [ht] at hP1
    have hK1 := va_K.moved hvm.symm hK1
    try dsimp only at hw
    have hPD := va_join (wr := []) (w1 := [(h0, .inr (13, z_3)), (qf102, .inl (cf102, 2048, .inl f102)), (qf100, .inl (cf100, 48000, .inl f100)), (qf104, .inl (cf104, 8, .inl f104)), (qf118, .inl (cf118, 2100, .inl g903_1)), (qf119, .inl (cf119, 2100, .inl g903_2))]) hP hD [4, 0, 5, 1, 2, 3] [] rfl rfl (by decide) (by decide) hk1 hFc hP1 hD1
    clear hP hD
    obtain ⟨hP, hD⟩ := hPD
    replace hK := (hK.sub (tys' := []) [] rfl).app hK1
    clear hPc hDc hKc hFc hP1 hK1 hD1 hz1 hk1 ht hvm
    generalize H1 = H at hP hS ⊢
    replace hP : va_P (dC, dI) vwCl [(h0, .inr (13, z_3)), (qf102, .inl (cf102, 2048, .inl f102)), (qf100, .inl (cf100, 48000, .inl f100)), (qf104, .inl (cf104, 8, .inl f104)), (qf118, .inl (cf118, 2100, .inl g903_1)), (qf119, .inl (cf119, 2100, .inl g903_2))] H := hP
    replace hD : va_D A [(h0, .inr (13, z_3)), (qf102, .inl (cf102, 2048, .inl f102)), (qf100, .inl (cf100, 48000, .inl f100)), (qf104, .inl (cf104, 8, .inl f104)), (qf118, .inl (cf118, 2100, .inl g903_1)), (qf119, .inl (cf119, 2100, .inl g903_2))] := hD
    replace hK : va_K (dC, dI) vwCl [(cf102, .int), (cf100, .int), (cf104, .int), (cf118, .int), (cf119, .int)] s := hK
    obtain ⟨hwa_3, hln_3, hre_3, hch_3_117, hch_3_120⟩ := hw
    have hfk_3_98 : z_3[98]? = some (.int v98) := (hre_3 98 (by decide) (by decide)).trans (hfk_2_98)
    have hfk_3_100 : z_3[100]? = some (.ref qf100) := (hre_3 100 (by decide) (by decide)).trans (hfk_2_100)
    have hfk_3_102 : z_3[102]? = some (.ref qf102) := (hre_3 102 (by decide) (by decide)).trans (hfk_2_102)
    have hfk_3_104 : z_3[104]? = some (.ref qf104) := (hre_3 104 (by decide) (by decide)).trans (hfk_2_104)
    have hfk_3_118 : z_3[118]? = some (.ref qf118) := (hre_3 118 (by decide) (by decide)).trans (hfk_2_118)
    have hfk_3_119 : z_3[119]? = some (.ref qf119) := (hre_3 119 (by decide) (by decide)).trans (hfk_2_119)
    have hfk_3_132 : z_3[132]? = some (.int v132) := (hre_3 132 (by decide) (by decide)).trans (hfk_2_132)
    have hrq_3 : ∀ j : Nat, j ≠ 117 → j ≠ 120 → z_3[j]? = zs[j]? := fun j g117 g120 => (hre_3 j g117 g120).trans (hrq_2 j g117 g120)
    obtain rfl := hwa_3
    have hr0 := Option.some.inj hsp
    clear hsp
    obtain ⟨hq0, hr1⟩ := Prod.mk.inj hr0
    clear hr0
    obtain ⟨hq1, hr2⟩ := Prod.mk.inj hr1
    clear hr1
    obtain ⟨hq2, hr3⟩ := Prod.mk.inj hr2
    clear hr2
    obtain ⟨hq3, hr4⟩ := Prod.mk.inj hr3
    clear hr3
    subst hq0
    subst hq1
    subst hq2
    subst hq3
    subst hr4
    have hP9 := hP.sub (ws' := [(h0, .inr (13, z_3)), (qf100, .inl (cf100, 48000, .inl f100)), (qf102, .inl (cf102, 2048, .inl f102)), (qf104, .inl (cf104, 8, .inl f104)), (qf118, .inl (cf118, 2100, .inl g903_1)), (qf119, .inl (cf119, 2100, .inl g903_2))]) [0, 2, 1, 3, 4, 5] rfl
    have hD9 := hD.sub (ws' := [(h0, .inr (13, z_3)), (qf100, .inl (cf100, 48000, .inl f100)), (qf102, .inl (cf102, 2048, .inl f102)), (qf104, .inl (cf104, 8, .inl f104)), (qf118, .inl (cf118, 2100, .inl g903_1)), (qf119, .inl (cf119, 2100, .inl g903_2))]) [0, 2, 1, 3, 4, 5] (by decide) rfl
    have hK9 := hK.sub (tys' := [(cf100, .int), (cf102, .int), (cf104, .int), (cf118, .int), (cf119, .int)]) [1, 0, 2, 3, 4] rfl
    exact W.iret hx hb hr (fun t ht hW => ⟨⟨(u3_0), (z_3), rfl, ⟨rfl, hln_3, hrq_3, hch_3_117, hch_3_120⟩, by rw [ht]; exact hP9, va_K.moved hW.alike hK9, hD9⟩, hS.F ht⟩) hS.2.2 dX13_framed_44
  · rw [if_neg c_2] at hsp
    refine lv_aload_n hx hb dX13_framed_13 rfl (lv_at hl 0 rfl) ?_
    refine lv_aload_n hx hb dX13_framed_14 rfl (lv_at hl 0 rfl) ?_
    refine va_get (D := (dC, dI)) (ci := 13) (v := .int v132) (C := RX13) (T := TX13) (N := 155) hx hb hts uV_h9_X13 hown hK hP 4 rfl rfl 132 (by decide) (hts (.fieldLink RX13 932 "ClassMillModel" "inClass" "I") mw_h9_533) (fun _ h9 => h9) hfk_1_132 dX13_framed_15 ?_
    refine lv_iload_n hx hb dX13_framed_18 rfl (lv_at hl 1 rfl) ?_
    obtain ⟨u4_0, hu_4, hsp⟩ := ox_bind hsp
    try dsimp only at hsp
    have hPc := hP.sub (ws' := [(h0, .inr (13, z_1)), (qf100, .inl (cf100, 48000, .inl f100))]) [4, 5] rfl
    have hDc := hD.sub (ws' := [(h0, .inr (13, z_1)), (qf100, .inl (cf100, 48000, .inl f100))]) [4, 5] (by decide) rfl
    have hKc := hK.sub (tys' := [(cf100, .int)]) [4] rfl
    have hFc := va_free (wc := [(h0, .inr (13, z_1)), (qf100, .inl (cf100, 48000, .inl f100))]) hD hS hA [4, 5] rfl
    refine va_calli (va_runV (As := [.int v132, .int a1]) (rest := []) ⟨hx, hb, hml, hown, hts⟩ (tm_byteAt l dC dI H.size h0 z_1 v132 a1 qf100 cf100 f100 nf u4_0 hln_1 hfk_1_100 hu_4) (cwV 2 hts gv_h9_58 rfl rfl rfl (by decide +kernel) ⟨Nat.le_of_ble_eq_true rfl, Nat.le_of_ble_eq_true rfl⟩) ⟨fun a U g mk q => by obtain ⟨q0, q1, qP, qK, qD⟩ := q; exact ⟨q0, q1, qP, va_K.moved (u := U) (U := U.calling g mk a) (Vm.Alike.refl U.vm) qK, qD⟩, va_recv hKc hPc (ci := 13) (q0 := 0) rfl rfl, fun U hU hW => ⟨rfl, by rw [hU], by rw [hU]; exact hPc, va_K.moved hW.alike hKc, hDc.weaken (fun _ _ _ _ => trivial)⟩⟩ rfl rfl hl.1 rfl (lv_room (Nat.le_of_ble_eq_true rfl)) dX13_framed_19 ⟨Nat.le_of_ble_eq_true rfl, Nat.le_of_ble_eq_true rfl⟩) hS (fun q _ h => hFc q h) hFc ?_
    clear hS
    intro r_5 u t H1 locs ht hvm hw hB hz1 hk1 hS
    obtain ⟨z_4, rfl⟩ : ∃ z, z = u := ⟨_, rfl⟩
    obtain ⟨hP1, hK1, hD1⟩ := hB
    rw [ht] at hP1
    have hK1 := va_K.moved hvm.symm hK1
    try dsimp only at hw
    have hPD := va_join (wr := [(qf102, .inl (cf102, 2048, .inl f102)), (qf104, .inl (cf104, 8, .inl f104)), (qf118, .inl (cf118, 2100, .inl f118)), (qf119, .inl (cf119, 2100, .inl f119))]) (w1 := [(h0, .inr (13, z_4)), (qf100, .inl (cf100, 48000, .inl f100))]) hP hD [4, 5] [0, 1, 2, 3] rfl rfl (by decide) (by decide) hk1 hFc hP1 hD1
    clear hP hD
    obtain ⟨hP, hD⟩ := hPD
    replace hK := (hK.sub (tys' := [(cf102, .int), (cf104, .int), (cf118, .int), (cf119, .int)]) [0, 1, 2, 3] rfl).app hK1
    clear hPc hDc hKc hFc hP1 hK1 hD1 hz1 hk1 ht hvm
    generalize H1 = H at hP hS ⊢
    replace hP : va_P (dC, dI) vwCl [(qf102, .inl (cf102, 2048, .inl f102)), (qf104, .inl (cf104, 8, .inl f104)), (qf118, .inl (cf118, 2100, .inl f118)), (qf119, .inl (cf119, 2100, .inl f119)), (h0, .inr (13, z_4)), (qf100, .inl (cf100, 48000, .inl f100))] H := hP
    replace hD : va_D A [(qf102, .inl (cf102, 2048, .inl f102)), (qf104, .inl (cf104, 8, .inl f104)), (qf118, .inl (cf118, 2100, .inl f118)), (qf119, .inl (cf119, 2100, .inl f119)), (h0, .inr (13, z_4)), (qf100, .inl (cf100, 48000, .inl f100))] := hD
    replace hK : va_K (dC, dI) vwCl [(cf102, .int), (cf104, .int), (cf118, .int), (cf119, .int), (cf100, .int)] s := hK
    obtain ⟨hwa_4, hln_4, hre_4⟩ := hw
    have hfk_4_98 : z_4[98]? = some (.int v98) := (hre_4 98 ).trans (hfk_1_98)
    have hfk_4_100 : z_4[100]? = some (.ref qf100) := (hre_4 100 ).trans (hfk_1_100)
    have hfk_4_102 : z_4[102]? = some (.ref qf102) := (hre_4 102 ).trans (hfk_1_102)
    have hfk_4_104 : z_4[104]? = some (.ref qf104) := (hre_4 104 ).trans (hfk_1_104)
    have hfk_4_117 : z_4[117]? = some (.int v117) := (hre_4 117 ).trans (hfk_1_117)
    have hfk_4_118 : z_4[118]? = some (.ref qf118) := (hre_4 118 ).trans (hfk_1_118)
    have hfk_4_119 : z_4[119]? = some (.ref qf119) := (hre_4 119 ).trans (hfk_1_119)
    have hfk_4_120 : z_4[120]? = some (.int v120) := (hre_4 120 ).trans (hfk_1_120)
    have hfk_4_132 : z_4[132]? = some (.int v132) := (hre_4 132 ).trans (hfk_1_132)
    have hrq_4 : ∀ j : Nat, j ≠ 117 → j ≠ 120 → z_4[j]? = zs[j]? := fun j g117 g120 => (hre_4 j ).trans (hrq_1 j g117 g120)
    obtain rfl := hwa_4
    refine lv_goto (tgt := 44) hx hb dX13_framed_22 (by decide) ?_
    have hr0 := Option.some.inj hsp
    clear hsp
    obtain ⟨hq0, hr1⟩ := Prod.mk.inj hr0
    clear hr0
    obtain ⟨hq1, hr2⟩ := Prod.mk.inj hr1
    clear hr1
    obtain ⟨hq2, hr3⟩ := Prod.mk.inj hr2
    clear hr2
    obtain ⟨hq3, hr4⟩ := Prod.mk.inj hr3
    clear hr3
    subst hq0
    subst hq1
    subst hq2
    subst hq3
    subst hr4
    have hP9 := hP.sub (ws' := [(h0, .inr (13, z_4)), (qf100, .inl (cf100, 48000, .inl f100)), (qf102, .inl (cf102, 2048, .inl f102)), (qf104, .inl (cf104, 8, .inl f104)), (qf118, .inl (cf118, 2100, .inl f118)), (qf119, .inl (cf119, 2100, .inl f119))]) [4, 5, 0, 1, 2, 3] rfl
    have hD9 := hD.sub (ws' := [(h0, .inr (13, z_4)), (qf100, .inl (cf100, 48000, .inl f100)), (qf102, .inl (cf102, 2048, .inl f102)), (qf104, .inl (cf104, 8, .inl f104)), (qf118, .inl (cf118, 2100, .inl f118)), (qf119, .inl (cf119, 2100, .inl f119))]) [4, 5, 0, 1, 2, 3] (by decide) rfl
    have hK9 := hK.sub (tys' := [(cf100, .int), (cf102, .int), (cf104, .int), (cf118, .int), (cf119, .int)]) [4, 0, 1, 2, 3] rfl
    exact W.iret hx hb hr (fun t ht hW => ⟨⟨(u4_0), (z_4), rfl, ⟨rfl, hln_4, hrq_4, hfk_4_117, hfk_4_120⟩, by rw [ht]; exact hP9, va_K.moved hW.alike hK9, hD9⟩, hS.F ht⟩) hS.2.2 dX13_framed_44
def lp_vm_localsFit_20 (nf n : Nat) (a1 : Int32) (v98 : Int32) (v117 : Int32) (v120 : Int32) (v132 : Int32) (f100 : Nat → Int32) (f127 : Nat → Int32) (f102 : Nat → Int32) (f104 : Nat → Int32) (f118 : Nat → Int32) (f119 : Nat → Int32) (f105 : Nat → Int32) (nS477 : Nat) (fS477 : Nat → Int32)  (l2_20 : Int32) (l3_20 : Int32) (l4_20 : Int32) (g118_20 : Nat → Int32) (g119_20 : Nat → Int32) (x117_20 : Int32) (x120_20 : Int32) : Option (Int32 × (Nat → Int32) × (Nat → Int32) × Int32 × Int32) := match n with
  | 0 => none
  | n + 1 => (if l3_20 ≤ l4_20 then (some (1, g118_20, g119_20, x117_20, x120_20)) else (if l4_20 < 0 then none else if 30 ≤ (l4_20 : Int32).toNatClampNeg then none else ((sp_vm_framed nf l2_20 v98 x117_20 x120_20 v132 f100 f102 f104 g118_20 g119_20 nS477 fS477).bind (fun p1 => ((sp_vm_goes nf (f127 (l4_20 : Int32).toNatClampNeg) p1.1 v98 f105 f102 f100 f104 nS477 fS477).bind (fun p2 => (if p2 = 0 then (some (0, p1.2.1, p1.2.2.1, p1.2.2.2.1, p1.2.2.2.2)) else ((sp_tm_byteAt nf v132 l2_20 f100).bind (fun p3 => (if p3 = 3 then (lp_vm_localsFit_20 nf n a1 v98 v117 v120 v132 f100 f127 f102 f104 f118 f119 f105 nS477 fS477 (l2_20 + 2) l3_20 (l4_20 + 1) p1.2.1 p1.2.2.1 p1.2.2.2.1 p1.2.2.2.2) else (lp_vm_localsFit_20 nf n a1 v98 v117 v120 v132 f100 f127 f102 f104 f118 f119 f105 nS477 fS477 (l2_20 + 1) l3_20 (l4_20 + 1) p1.2.1 p1.2.2.1 p1.2.2.2.1 p1.2.2.2.2)))))))))))
def sp_vm_localsFit (nf : Nat) (a1 : Int32) (v98 : Int32) (v117 : Int32) (v120 : Int32) (v132 : Int32) (f100 : Nat → Int32) (f127 : Nat → Int32) (f102 : Nat → Int32) (f104 : Nat → Int32) (f118 : Nat → Int32) (f119 : Nat → Int32) (f105 : Nat → Int32) (nS477 : Nat) (fS477 : Nat → Int32) : Option (Int32 × (Nat → Int32) × (Nat → Int32) × Int32 × Int32) := ((sp_tm_byteAt nf v132 (a1 + 2) f100).bind (fun p1 => (lp_vm_localsFit_20 nf nf a1 v98 v117 v120 v132 f100 f127 f102 f104 f118 f119 f105 nS477 fS477  ((a1 + 2) + 1) p1 0 f118 f119 v117 v120)))
set_option maxHeartbeats 4000000 in
set_option maxRecDepth 100000 in
/-- ClassMillModel.localsFit -/
theorem vm_localsFit (l : Launch) (dC : Nat → ClassId) (dI : Nat → Nat → Nat) (sz : Nat) (h0 : Nat) (zs : (List Value)) (a1 : Int32) (v98 : Int32) (qf100 : Nat) (qf102 : Nat) (qf104 : Nat) (qf105 : Nat) (v117 : Int32) (qf118 : Nat) (qf119 : Nat) (v120 : Int32) (qf127 : Nat) (v132 : Int32) (cf100 : ClassId) (f100 : (Nat → Int32)) (cf127 : ClassId) (f127 : (Nat → Int32)) (cf102 : ClassId) (f102 : (Nat → Int32)) (cf104 : ClassId) (f104 : (Nat → Int32)) (cf118 : ClassId) (f118 : (Nat → Int32)) (cf119 : ClassId) (f119 : (Nat → Int32)) (cf105 : ClassId) (f105 : (Nat → Int32)) (nS477 : Nat) (fS477 : (Nat → Int32)) (hS477 : Nat) (qS477 : Nat) (tS477 : String) (nf : Nat) (r0 : Int32) (o118 : (Nat → Int32)) (o119 : (Nat → Int32)) (w117 : Int32) (w120 : Int32) (hlen : zs.length = 155) (hf98 : zs[98]? = some (.int v98)) (hf100 : zs[100]? = some (.ref qf100)) (hf102 : zs[102]? = some (.ref qf102)) (hf104 : zs[104]? = some (.ref qf104)) (hf105 : zs[105]? = some (.ref qf105)) (hf117 : zs[117]? = some (.int v117)) (hf118 : zs[118]? = some (.ref qf118)) (hf119 : zs[119]? = some (.ref qf119)) (hf120 : zs[120]? = some (.int v120)) (hf127 : zs[127]? = some (.ref qf127)) (hf132 : zs[132]? = some (.int v132)) (hsp : sp_vm_localsFit nf a1 v98 v117 v120 v132 f100 f127 f102 f104 f118 f119 f105 nS477 fS477 = some (r0, o118, o119, w117, w120)) : Met l yX13_localsFit (.code yX13_localsFit cX13_localsFit 5 (some .boolean) :: VS_h9) ({ frames := 10, cells := 0, slots := 0, locals := 232 }) (va_Pc [.ref h0, .int a1] (fun U => U.heap.size = sz ∧ va_P (dC, dI) vwCl [(h0, .inr (13, zs)), (qf100, .inl (cf100, 48000, .inl f100)), (qf127, .inl (cf127, 30, .inl f127)), (qf102, .inl (cf102, 2048, .inl f102)), (qf104, .inl (cf104, 8, .inl f104)), (qf118, .inl (cf118, 2100, .inl f118)), (qf119, .inl (cf119, 2100, .inl f119)), (qf105, .inl (cf105, 8, .inl f105))] U.heap ∧ va_K (dC, dI) vwCl [(cf100, .int), (cf127, .int), (cf102, .int), (cf104, .int), (cf118, .int), (cf119, .int), (cf105, .int)] U ∧ va_D (fun _ => True) [(h0, .inr (13, zs)), (qf100, .inl (cf100, 48000, .inl f100)), (qf127, .inl (cf127, 30, .inl f127)), (qf102, .inl (cf102, 2048, .inl f102)), (qf104, .inl (cf104, 8, .inl f104)), (qf118, .inl (cf118, 2100, .inl f118)), (qf119, .inl (cf119, 2100, .inl f119)), (qf105, .inl (cf105, 8, .inl f105))] ∧ pz_W nS477 fS477 hS477 qS477 (va_A [(h0, .inr (13, zs)), (qf100, .inl (cf100, 48000, .inl f100)), (qf127, .inl (cf127, 30, .inl f127)), (qf102, .inl (cf102, 2048, .inl f102)), (qf104, .inl (cf104, 8, .inl f104)), (qf118, .inl (cf118, 2100, .inl f118)), (qf119, .inl (cf119, 2100, .inl f119)), (qf105, .inl (cf105, 8, .inl f105))] sz) U U.heap ∧ vk_R RX13 477 tS477 hS477 U)) (va_Qi (fun (r : Int32) (u : (List Value)) => match u with | (zo1) => (r0 = r ∧ (r0 = 0 ∨ r0 = 1)) ∧ zo1.length = 155 ∧ (∀ j : Nat, j ≠ 117 → j ≠ 120 → zo1[j]? = zs[j]?) ∧ zo1[117]? = some (.int w117) ∧ zo1[120]? = some (.int w120)) (fun (u : (List Value)) (t : State) => match u with | (zo1) => va_P (dC, dI) vwCl [(h0, .inr (13, zo1)), (qf100, .inl (cf100, 48000, .inl f100)), (qf127, .inl (cf127, 30, .inl f127)), (qf102, .inl (cf102, 2048, .inl f102)), (qf104, .inl (cf104, 8, .inl f104)), (qf118, .inl (cf118, 2100, .inl o118)), (qf119, .inl (cf119, 2100, .inl o119)), (qf105, .inl (cf105, 8, .inl f105))] t.heap ∧ va_K (dC, dI) vwCl [(cf100, .int), (cf127, .int), (cf102, .int), (cf104, .int), (cf118, .int), (cf119, .int), (cf105, .int)] t ∧ va_D (va_A [(h0, .inr (13, zs)), (qf100, .inl (cf100, 48000, .inl f100)), (qf127, .inl (cf127, 30, .inl f127)), (qf102, .inl (cf102, 2048, .inl f102)), (qf104, .inl (cf104, 8, .inl f104)), (qf118, .inl (cf118, 2100, .inl f118)), (qf119, .inl (cf119, 2100, .inl f119)), (qf105, .inl (cf105, 8, .inl f105))] sz) [(h0, .inr (13, zo1)), (qf100, .inl (cf100, 48000, .inl f100)), (qf127, .inl (cf127, 30, .inl f127)), (qf102, .inl (cf102, 2048, .inl f102)), (qf104, .inl (cf104, 8, .inl f104)), (qf118, .inl (cf118, 2100, .inl o118)), (qf119, .inl (cf119, 2100, .inl o119)), (qf105, .inl (cf105, 8, .inl f105))]) (va_A [(h0, .inr (13, zs)), (qf100, .inl (cf100, 48000, .inl f100)), (qf127, .inl (cf127, 30, .inl f127)), (qf102, .inl (cf102, 2048, .inl f102)), (qf104, .inl (cf104, 8, .inl f104)), (qf118, .inl (cf118, 2100, .inl f118)), (qf119, .inl (cf119, 2100, .inl f119)), (qf105, .inl (cf105, 8, .inl f105))] sz)) 0 0 (va_A [(h0, .inr (13, zs)), (qf100, .inl (cf100, 48000, .inl f100)), (qf127, .inl (cf127, 30, .inl f127)), (qf102, .inl (cf102, 2048, .inl f102)), (qf104, .inl (cf104, 8, .inl f104)), (qf118, .inl (cf118, 2100, .inl f118)), (qf119, .inl (cf119, 2100, .inl f119)), (qf105, .inl (cf105, 8, .inl f105))] sz) := by
  refine Met.ofW (cc := cX13_localsFit) (maxL := 5) (ret := (some .boolean)) (by decide) rfl ?_
  intro p e s m args below meth c s₁ B hml hv
  obtain ⟨rfl, hsz, hP, hK, hD0, hZWS477, hZRS477⟩ := hv
  have hx := B.exec
  have hb := B.bytes
  have hr := B.returns
  have hts := atoms_spec (ws := (.code yX13_localsFit cX13_localsFit 5 (some .boolean) :: VS_h9)) B.pre
  replace hts := fun w (h : w ∈ VS_h9) => hts w (List.mem_cons_of_mem _ h)
  have hown : s.vm.findClass RX13 = some m.cls := findClass_of_methodNamed B.named
  have hlocks := B.notSynchronized
  subst hsz
  have hD := hD0.self (sz := s.heap.size)
  generalize hAe : va_A [(h0, .inr (13, zs)), (qf100, .inl (cf100, 48000, .inl f100)), (qf127, .inl (cf127, 30, .inl f127)), (qf102, .inl (cf102, 2048, .inl f102)), (qf104, .inl (cf104, 8, .inl f104)), (qf118, .inl (cf118, 2100, .inl f118)), (qf119, .inl (cf119, 2100, .inl f119)), (qf105, .inl (cf105, 8, .inl f105))] s.heap.size = A at hD hZWS477 ⊢
  have hA : ∀ q : Nat, s.heap.size ≤ q → A q := fun q h => by rw [← hAe]; exact Or.inr h
  have hP : va_P (dC, dI) vwCl [(h0, .inr (13, zs)), (qf100, .inl (cf100, 48000, .inl f100)), (qf127, .inl (cf127, 30, .inl f127)), (qf102, .inl (cf102, 2048, .inl f102)), (qf104, .inl (cf104, 8, .inl f104)), (qf118, .inl (cf118, 2100, .inl f118)), (qf119, .inl (cf119, 2100, .inl f119)), (qf105, .inl (cf105, 8, .inl f105))] s.heap := hP
  have hl := lv_entry ([.ref h0, .int a1]) (n := 5) (Nat.le_of_ble_eq_true rfl)
  rw [lg_entry_eq]
  generalize (lg_sl ([.ref h0, .int a1]) ++ List.replicate (5 - (lg_sl ([.ref h0, .int a1])).length) Slot.unset).toArray = ls at hl ⊢
  have hl : lv_has ls 5 [(0, .ref h0), (1, .int a1)] := hl
  obtain ⟨H, hH⟩ : ∃ H : Heap, s.heap = H := ⟨_, rfl⟩
  rw [hH] at hP ⊢
  have hS : va_S A s.heap H [] := by rw [← hH]; exact va_S.rf
  obtain ⟨locs, hlo⟩ : ∃ locs : List Loc, locs = [] := ⟨_, rfl⟩
  rw [← hlo] at hS ⊢
  have hrs0 : ∀ j : Nat, j ≠ 117 → j ≠ 120 → zs[j]? = zs[j]? := fun _ _ _  => rfl
  unfold sp_vm_localsFit at hsp
  refine lv_iload_n hx hb dX13_localsFit_0 rfl (lv_at hl 1 rfl) ?_
  refine lv_iconst (v := 2) hx hb dX13_localsFit_1 (by decide) ?_
  refine lv_iadd hx hb dX13_localsFit_2 ?_
  refine lv_istore_n (lv' := [(2, .int (a1 + 2)), (0, .ref h0), (1, .int a1)]) hx hb dX13_localsFit_3 rfl hl (by decide) rfl (fun ls hl => ?_)
  refine lv_aload_n hx hb dX13_localsFit_4 rfl (lv_at hl 1 rfl) ?_
  refine lv_aload_n hx hb dX13_localsFit_5 rfl (lv_at hl 1 rfl) ?_
  refine va_get (D := (dC, dI)) (ci := 13) (v := .int v132) (C := RX13) (T := TX13) (N := 155) hx hb hts uV_h9_X13 hown hK hP 0 rfl rfl 132 (by decide) (hts (.fieldLink RX13 932 "ClassMillModel" "inClass" "I") mw_h9_533) (fun _ h9 => h9) hf132 dX13_localsFit_6 ?_
  refine lv_iload_n hx hb dX13_localsFit_9 rfl (lv_at hl 0 rfl) ?_
  obtain ⟨u1_0, hu_1, hsp⟩ := ox_bind hsp
  try dsimp only at hsp
  have hPc := hP.sub (ws' := [(h0, .inr (13, zs)), (qf100, .inl (cf100, 48000, .inl f100))]) [0, 1] rfl
  have hDc := hD.sub (ws' := [(h0, .inr (13, zs)), (qf100, .inl (cf100, 48000, .inl f100))]) [0, 1] (by decide) rfl
  have hKc := hK.sub (tys' := [(cf100, .int)]) [0] rfl
  have hFc := va_free (wc := [(h0, .inr (13, zs)), (qf100, .inl (cf100, 48000, .inl f100))]) hD hS hA [0, 1] rfl
  refine va_calli (va_runV (As := [.int v132, .int (a1 + 2)]) (rest := []) ⟨hx, hb, hml, hown, hts⟩ (tm_byteAt l dC dI H.size h0 zs v132 ((a1 + 2)) qf100 cf100 f100 nf u1_0 hlen hf100 hu_1) (cwV 2 hts gv_h9_58 rfl rfl rfl (by decide +kernel) ⟨Nat.le_of_ble_eq_true rfl, Nat.le_of_ble_eq_true rfl⟩) ⟨fun a U g mk q => by obtain ⟨q0, q1, qP, qK, qD⟩ := q; exact ⟨q0, q1, qP, va_K.moved (u := U) (U := U.calling g mk a) (Vm.Alike.refl U.vm) qK, qD⟩, va_recv hKc hPc (ci := 13) (q0 := 0) rfl rfl, fun U hU hW => ⟨rfl, by rw [hU], by rw [hU]; exact hPc, va_K.moved hW.alike hKc, hDc.weaken (fun _ _ _ _ => trivial)⟩⟩ rfl rfl hl.1 rfl (lv_room (Nat.le_of_ble_eq_true rfl)) dX13_localsFit_10 ⟨Nat.le_of_ble_eq_true rfl, Nat.le_of_ble_eq_true rfl⟩) hS (fun q _ h => hFc q h) hFc ?_
  clear hS
  intro r_1 u t H1 locs ht hvm hw hB hz1 hk1 hS
  obtain ⟨z_1, rfl⟩ : ∃ z, z = u := ⟨_, rfl⟩
  obtain ⟨hP1, hK1, hD1⟩ := hB
  rw [ht] at hP1
  have hK1 := va_K.moved hvm.symm hK1
  try dsimp only at hw
  have hPD := va_join (wr := [(qf127, .inl (cf127, 30, .inl f127)), (qf102, .inl (cf102, 2048, .inl f102)), (qf104, .inl (cf104, 8, .inl f104)), (qf118, .inl (cf118, 2100, .inl f118)), (qf119, .inl (cf119, 2100, .inl f119)), (qf105, .inl (cf105, 8, .inl f105))]) (w1 := [(h0, .inr (13, z_1)), (qf100, .inl (cf100, 48000, .inl f100))]) hP hD [0, 1] [2, 3, 4, 5, 6, 7] rfl rfl (by decide) (by decide) hk1 hFc hP1 hD1
  clear hP hD
  obtain ⟨hP, hD⟩ := hPD
  replace hK := (hK.sub (tys' := [(cf127, .int), (cf102, .int), (cf104, .int), (cf118, .int), (cf119, .int), (cf105, .int)]) [1, 2, 3, 4, 5, 6] rfl).app hK1
  clear hPc hDc hKc hFc hP1 hK1 hD1 hz1 hk1 ht hvm
  generalize H1 = H at hP hS ⊢
  replace hP : va_P (dC, dI) vwCl [(qf127, .inl (cf127, 30, .inl f127)), (qf102, .inl (cf102, 2048, .inl f102)), (qf104, .inl (cf104, 8, .inl f104)), (qf118, .inl (cf118, 2100, .inl f118)), (qf119, .inl (cf119, 2100, .inl f119)), (qf105, .inl (cf105, 8, .inl f105)), (h0, .inr (13, z_1)), (qf100, .inl (cf100, 48000, .inl f100))] H := hP
  replace hD : va_D A [(qf127, .inl (cf127, 30, .inl f127)), (qf102, .inl (cf102, 2048, .inl f102)), (qf104, .inl (cf104, 8, .inl f104)), (qf118, .inl (cf118, 2100, .inl f118)), (qf119, .inl (cf119, 2100, .inl f119)), (qf105, .inl (cf105, 8, .inl f105)), (h0, .inr (13, z_1)), (qf100, .inl (cf100, 48000, .inl f100))] := hD
  replace hK : va_K (dC, dI) vwCl [(cf127, .int), (cf102, .int), (cf104, .int), (cf118, .int), (cf119, .int), (cf105, .int), (cf100, .int)] s := hK
  obtain ⟨hwa_1, hln_1, hre_1⟩ := hw
  have hfk_1_98 : z_1[98]? = some (.int v98) := (hre_1 98 ).trans (hf98)
  have hfk_1_100 : z_1[100]? = some (.ref qf100) := (hre_1 100 ).trans (hf100)
  have hfk_1_102 : z_1[102]? = some (.ref qf102) := (hre_1 102 ).trans (hf102)
  have hfk_1_104 : z_1[104]? = some (.ref qf104) := (hre_1 104 ).trans (hf104)
  have hfk_1_105 : z_1[105]? = some (.ref qf105) := (hre_1 105 ).trans (hf105)
  have hfk_1_117 : z_1[117]? = some (.int v117) := (hre_1 117 ).trans (hf117)
  have hfk_1_118 : z_1[118]? = some (.ref qf118) := (hre_1 118 ).trans (hf118)
  have hfk_1_119 : z_1[119]? = some (.ref qf119) := (hre_1 119 ).trans (hf119)
  have hfk_1_120 : z_1[120]? = some (.int v120) := (hre_1 120 ).trans (hf120)
  have hfk_1_127 : z_1[127]? = some (.ref qf127) := (hre_1 127 ).trans (hf127)
  have hfk_1_132 : z_1[132]? = some (.int v132) := (hre_1 132 ).trans (hf132)
  have hrq_1 : ∀ j : Nat, j ≠ 117 → j ≠ 120 → z_1[j]? = zs[j]? := fun j g117 g120 => (hre_1 j ).trans (hrs0 j g117 g120)
  obtain rfl := hwa_1
  refine lv_istore_n (lv' := [(3, .int u1_0), (2, .int (a1 + 2)), (0, .ref h0), (1, .int a1)]) hx hb dX13_localsFit_13 rfl hl (by decide) rfl (fun ls hl => ?_)
  refine lv_iinc (v := ((a1 + 2) + 1)) (lv' := [(2, .int ((a1 + 2) + 1)), (3, .int u1_0), (0, .ref h0), (1, .int a1)]) hx hb dX13_localsFit_14 hl (k := 1) rfl rfl (by decide) rfl (fun ls hl => ?_)
  refine lv_iconst (v := 0) hx hb dX13_localsFit_17 (by decide) ?_
  refine lv_istore (lv' := [(4, .int 0), (2, .int ((a1 + 2) + 1)), (3, .int u1_0), (0, .ref h0), (1, .int a1)]) hx hb dX13_localsFit_18 hl (by decide) rfl (fun ls hl => ?_)
  replace hl : lv_has ls 5 [(4, .int 0), (2, .int ((a1 + 2) + 1)), (3, .int u1_0), (0, .ref h0)] := lv_sub hl [0, 1, 2, 3] rfl
  replace hP := hP.sub (ws' := [(h0, .inr (13, z_1)), (qf100, .inl (cf100, 48000, .inl f100)), (qf127, .inl (cf127, 30, .inl f127)), (qf102, .inl (cf102, 2048, .inl f102)), (qf104, .inl (cf104, 8, .inl f104)), (qf118, .inl (cf118, 2100, .inl f118)), (qf119, .inl (cf119, 2100, .inl f119)), (qf105, .inl (cf105, 8, .inl f105))]) [6, 7, 0, 1, 2, 3, 4, 5] rfl
  replace hD := hD.sub (ws' := [(h0, .inr (13, z_1)), (qf100, .inl (cf100, 48000, .inl f100)), (qf127, .inl (cf127, 30, .inl f127)), (qf102, .inl (cf102, 2048, .inl f102)), (qf104, .inl (cf104, 8, .inl f104)), (qf118, .inl (cf118, 2100, .inl f118)), (qf119, .inl (cf119, 2100, .inl f119)), (qf105, .inl (cf105, 8, .inl f105))]) [6, 7, 0, 1, 2, 3, 4, 5] (by decide) rfl
  replace hK := hK.sub (tys' := [(cf100, .int), (cf127, .int), (cf102, .int), (cf104, .int), (cf118, .int), (cf119, .int), (cf105, .int)]) [6, 0, 1, 2, 3, 4, 5] rfl
  obtain ⟨n_20, hn_20⟩ : ∃ z : Nat, z = nf := ⟨_, rfl⟩
  obtain ⟨l2_20, el2_20⟩ : ∃ z : Int32, z = ((a1 + 2) + 1) := ⟨_, rfl⟩
  obtain ⟨l3_20, el3_20⟩ : ∃ z : Int32, z = u1_0 := ⟨_, rfl⟩
  obtain ⟨l4_20, el4_20⟩ : ∃ z : Int32, z = 0 := ⟨_, rfl⟩
  obtain ⟨g118_20, eg118_20⟩ : ∃ z : Nat → Int32, z = f118 := ⟨_, rfl⟩
  obtain ⟨g119_20, eg119_20⟩ : ∃ z : Nat → Int32, z = f119 := ⟨_, rfl⟩
  obtain ⟨x117_20, ex117_20⟩ : ∃ z : Int32, z = v117 := ⟨_, rfl⟩
  obtain ⟨x120_20, ex120_20⟩ : ∃ z : Int32, z = v120 := ⟨_, rfl⟩
  replace hsp : lp_vm_localsFit_20 nf n_20 a1 v98 v117 v120 v132 f100 f127 f102 f104 f118 f119 f105 nS477 fS477 l2_20 l3_20 l4_20 g118_20 g119_20 x117_20 x120_20 = some (r0, o118, o119, w117, w120) := by rw [hn_20, el2_20, el3_20, el4_20, eg118_20, eg119_20, ex117_20, ex120_20]; exact hsp
  replace hl : lv_has ls 5 [(4, .int l4_20), (2, .int l2_20), (3, .int l3_20), (0, .ref h0)] := by rw [el2_20, el3_20, el4_20]; exact hl
  obtain ⟨z20, ez20⟩ : ∃ z : List Value, z = z_1 := ⟨_, rfl⟩
  have hfh_20_98 : z20[98]? = some (.int v98) := by rw [ez20]; exact hfk_1_98
  have hfh_20_100 : z20[100]? = some (.ref qf100) := by rw [ez20]; exact hfk_1_100
  have hfh_20_102 : z20[102]? = some (.ref qf102) := by rw [ez20]; exact hfk_1_102
  have hfh_20_104 : z20[104]? = some (.ref qf104) := by rw [ez20]; exact hfk_1_104
  have hfh_20_105 : z20[105]? = some (.ref qf105) := by rw [ez20]; exact hfk_1_105
  have hfh_20_117 : z20[117]? = some (.int x117_20) := by rw [ez20, ex117_20]; exact hfk_1_117
  have hfh_20_118 : z20[118]? = some (.ref qf118) := by rw [ez20]; exact hfk_1_118
  have hfh_20_119 : z20[119]? = some (.ref qf119) := by rw [ez20]; exact hfk_1_119
  have hfh_20_120 : z20[120]? = some (.int x120_20) := by rw [ez20, ex120_20]; exact hfk_1_120
  have hfh_20_127 : z20[127]? = some (.ref qf127) := by rw [ez20]; exact hfk_1_127
  have hfh_20_132 : z20[132]? = some (.int v132) := by rw [ez20]; exact hfk_1_132
  have hlh_20 : z20.length = 155 := by rw [ez20]; exact hln_1
  have hrh_20 : ∀ j : Nat, j ≠ 117 → j ≠ 120 → z20[j]? = zs[j]? := by rw [ez20]; exact hrq_1
  replace hP : va_P (dC, dI) vwCl [(h0, .inr (13, z20)), (qf100, .inl (cf100, 48000, .inl f100)), (qf127, .inl (cf127, 30, .inl f127)), (qf102, .inl (cf102, 2048, .inl f102)), (qf104, .inl (cf104, 8, .inl f104)), (qf118, .inl (cf118, 2100, .inl g118_20)), (qf119, .inl (cf119, 2100, .inl g119_20)), (qf105, .inl (cf105, 8, .inl f105))] H := by rw [ez20, eg118_20, eg119_20]; exact hP
  replace hD : va_D A [(h0, .inr (13, z20)), (qf100, .inl (cf100, 48000, .inl f100)), (qf127, .inl (cf127, 30, .inl f127)), (qf102, .inl (cf102, 2048, .inl f102)), (qf104, .inl (cf104, 8, .inl f104)), (qf118, .inl (cf118, 2100, .inl g118_20)), (qf119, .inl (cf119, 2100, .inl g119_20)), (qf105, .inl (cf105, 8, .inl f105))] := by rw [ez20, eg118_20, eg119_20]; exact hD
  clear hn_20 ez20 el2_20 el3_20 el4_20 eg118_20 eg119_20 ex117_20 ex120_20
  try clear hlo
  try clear hH
  revert hsp
  revert hP
  revert hD
  revert hS
  revert hl
  revert hrh_20
  revert hlh_20
  revert hfh_20_132
  revert hfh_20_127
  revert hfh_20_120
  revert hfh_20_119
  revert hfh_20_118
  revert hfh_20_117
  revert hfh_20_105
  revert hfh_20_104
  revert hfh_20_102
  revert hfh_20_100
  revert hfh_20_98
  revert x120_20
  revert x117_20
  revert g119_20
  revert g118_20
  revert l4_20
  revert l3_20
  revert l2_20
  revert z20
  revert ls
  revert locs
  revert H
  induction n_20 with
  | zero => intro H locs ls z20 l2_20 l3_20 l4_20 g118_20 g119_20 x117_20 x120_20 hfh_20_98 hfh_20_100 hfh_20_102 hfh_20_104 hfh_20_105 hfh_20_117 hfh_20_118 hfh_20_119 hfh_20_120 hfh_20_127 hfh_20_132 hlh_20 hrh_20 hl hS hD hP hsp; unfold lp_vm_localsFit_20 at hsp; cases hsp
  | succ n_20 ih_20 =>
    intro H locs ls z20 l2_20 l3_20 l4_20 g118_20 g119_20 x117_20 x120_20 hfh_20_98 hfh_20_100 hfh_20_102 hfh_20_104 hfh_20_105 hfh_20_117 hfh_20_118 hfh_20_119 hfh_20_120 hfh_20_127 hfh_20_132 hlh_20 hrh_20 hl hS hD hP hsp
    unfold lp_vm_localsFit_20 at hsp
    try dsimp only at hsp
    refine lv_iload hx hb dX13_localsFit_20 (lv_at hl 0 rfl) ?_
    refine lv_iload_n hx hb dX13_localsFit_22 rfl (lv_at hl 2 rfl) ?_
    refine lv_icmp_ge (tgt := 74) hx hb dX13_localsFit_23 (by decide) (fun c_2 => ?_) (fun c_2 => ?_)
    · rw [if_pos c_2] at hsp
      refine lv_iconst (v := 1) hx hb dX13_localsFit_74 (by decide) ?_
      have hr0 := Option.some.inj hsp
      clear hsp
      obtain ⟨hq0, hr1⟩ := Prod.mk.inj hr0
      clear hr0
      obtain ⟨hq1, hr2⟩ := Prod.mk.inj hr1
      clear hr1
      obtain ⟨hq2, hr3⟩ := Prod.mk.inj hr2
      clear hr2
      obtain ⟨hq3, hr4⟩ := Prod.mk.inj hr3
      clear hr3
      subst hq0
      subst hq1
      subst hq2
      subst hq3
      subst hr4
      have hP9 := hP.sub (ws' := [(h0, .inr (13, z20)), (qf100, .inl (cf100, 48000, .inl f100)), (qf127, .inl (cf127, 30, .inl f127)), (qf102, .inl (cf102, 2048, .inl f102)), (qf104, .inl (cf104, 8, .inl f104)), (qf118, .inl (cf118, 2100, .inl g118_20)), (qf119, .inl (cf119, 2100, .inl g119_20)), (qf105, .inl (cf105, 8, .inl f105))]) [0, 1, 2, 3, 4, 5, 6, 7] rfl
      have hD9 := hD.sub (ws' := [(h0, .inr (13, z20)), (qf100, .inl (cf100, 48000, .inl f100)), (qf127, .inl (cf127, 30, .inl f127)), (qf102, .inl (cf102, 2048, .inl f102)), (qf104, .inl (cf104, 8, .inl f104)), (qf118, .inl (cf118, 2100, .inl g118_20)), (qf119, .inl (cf119, 2100, .inl g119_20)), (qf105, .inl (cf105, 8, .inl f105))]) [0, 1, 2, 3, 4, 5, 6, 7] (by decide) rfl
      have hK9 := hK.sub (tys' := [(cf100, .int), (cf127, .int), (cf102, .int), (cf104, .int), (cf118, .int), (cf119, .int), (cf105, .int)]) [0, 1, 2, 3, 4, 5, 6] rfl
      exact W.zret hx hb hr (by decide) (fun t ht hW => ⟨⟨(1), (z20), rfl, ⟨⟨rfl, Or.inr rfl⟩, hlh_20, hrh_20, hfh_20_117, hfh_20_120⟩, by rw [ht]; exact hP9, va_K.moved hW.alike hK9, hD9⟩, hS.F ht⟩) hS.2.2 dX13_localsFit_75
    · rw [if_neg c_2] at hsp
      refine lv_aload_n hx hb dX13_localsFit_26 rfl (lv_at hl 3 rfl) ?_
      refine lv_aload_n hx hb dX13_localsFit_27 rfl (lv_at hl 3 rfl) ?_
      refine va_get (D := (dC, dI)) (ci := 13) (v := .ref qf127) (C := RX13) (T := TX13) (N := 155) hx hb hts uV_h9_X13 hown hK hP 0 rfl rfl 127 (by decide) (hts (.fieldLink RX13 270 "ClassMillModel" "locals" "[I") mw_h9_542) (fun _ h9 => h9) hfh_20_127 dX13_localsFit_28 ?_
      refine lv_iload hx hb dX13_localsFit_31 (lv_at hl 0 rfl) ?_
      obtain ⟨hi_3, hsp⟩ := ox_in hsp
      refine va_iald hx hb hK hP 2 1 rfl rfl (i := l4_20) hi_3 dX13_localsFit_33 ?_
      refine lv_aload_n hx hb dX13_localsFit_34 rfl (lv_at hl 3 rfl) ?_
      refine lv_iload_n hx hb dX13_localsFit_35 rfl (lv_at hl 1 rfl) ?_
      obtain ⟨⟨u2_0, g902_1, g902_2, u2_3, u2_4⟩, hu_2, hsp⟩ := ox_bind hsp
      try dsimp only at hsp
      have hPc := hP.sub (ws' := [(h0, .inr (13, z20)), (qf100, .inl (cf100, 48000, .inl f100)), (qf102, .inl (cf102, 2048, .inl f102)), (qf104, .inl (cf104, 8, .inl f104)), (qf118, .inl (cf118, 2100, .inl g118_20)), (qf119, .inl (cf119, 2100, .inl g119_20))]) [0, 1, 3, 4, 5, 6] rfl
      have hDc := hD.sub (ws' := [(h0, .inr (13, z20)), (qf100, .inl (cf100, 48000, .inl f100)), (qf102, .inl (cf102, 2048, .inl f102)), (qf104, .inl (cf104, 8, .inl f104)), (qf118, .inl (cf118, 2100, .inl g118_20)), (qf119, .inl (cf119, 2100, .inl g119_20))]) [0, 1, 3, 4, 5, 6] (by decide) rfl
      have hKc := hK.sub (tys' := [(cf100, .int), (cf102, .int), (cf104, .int), (cf118, .int), (cf119, .int)]) [0, 2, 3, 4, 5] rfl
      have hFc := va_free (wc := [(h0, .inr (13, z20)), (qf100, .inl (cf100, 48000, .inl f100)), (qf102, .inl (cf102, 2048, .inl f102)), (qf104, .inl (cf104, 8, .inl f104)), (qf118, .inl (cf118, 2100, .inl g118_20)), (qf119, .inl (cf119, 2100, .inl g119_20))]) hD hS hA [0, 1, 3, 4, 5, 6] rfl
      refine va_calli (va_runV (As := [.int l2_20]) (rest := [.int (f127 (l4_20 : Int32).toNatClampNeg), .ref h0]) ⟨hx, hb, hml, hown, hts⟩ (vm_framed l dC dI H.size h0 z20 l2_20 v98 qf100 qf102 qf104 x117_20 qf118 qf119 x120_20 v132 cf100 f100 cf102 f102 cf104 f104 cf118 g118_20 cf119 g119_20 nS477 fS477 hS477 qS477 tS477 nf u2_0 g902_1 g902_2 u2_3 u2_4 hlh_20 hfh_20_98 hfh_20_100 hfh_20_102 hfh_20_104 hfh_20_117 hfh_20_118 hfh_20_119 hfh_20_120 hfh_20_132 hu_2) (cwV 1 hts gv_h9_109 rfl rfl rfl (by decide +kernel) ⟨Nat.le_of_ble_eq_true rfl, Nat.le_of_ble_eq_true rfl⟩) ⟨fun a U g mk q => by obtain ⟨q0, q1, qP, qK, qD, qhZWS477, qhZRS477⟩ := q; exact ⟨q0, q1, qP, va_K.moved (u := U) (U := U.calling g mk a) (Vm.Alike.refl U.vm) qK, qD, pz_W.moved (u := U) (U := U.calling g mk a) (Vm.Alike.refl U.vm) qhZWS477, vk_R.same rfl qhZRS477⟩, va_recv hKc hPc (ci := 13) (q0 := 0) rfl rfl, fun U hU hW => ⟨rfl, by rw [hU], by rw [hU]; exact hPc, va_K.moved hW.alike hKc, hDc.weaken (fun _ _ _ _ => trivial), by rw [hU]; exact ((pz_W.moved hW.alike hZWS477).kept hS.2.1).narrow hFc, vk_R.warm hW hZRS477⟩⟩ rfl rfl hl.1 rfl (lv_room (Nat.le_of_ble_eq_true rfl)) dX13_localsFit_36 ⟨Nat.le_of_ble_eq_true rfl, Nat.le_of_ble_eq_true rfl⟩) hS (fun q _ h => hFc q h) hFc ?_
      clear hS
      intro r_4 u t H1 locs ht hvm hw hB hz1 hk1 hS
      obtain ⟨z_2, rfl⟩ : ∃ z, z = u := ⟨_, rfl⟩
      obtain ⟨hP1, hK1, hD1⟩ := hB
      rw [ht] at hP1
      have hK1 := va_K.moved hvm.symm hK1
      try dsimp only at hw
      have hPD := va_join (wr := [(qf127, .inl (cf127, 30, .inl f127)), (qf105, .inl (cf105, 8, .inl f105))]) (w1 := [(h0, .inr (13, z_2)), (qf100, .inl (cf100, 48000, .inl f100)), (qf102, .inl (cf102, 2048, .inl f102)), (qf104, .inl (cf104, 8, .inl f104)), (qf118, .inl (cf118, 2100, .inl g902_1)), (qf119, .inl (cf119, 2100, .inl g902_2))]) hP hD [0, 1, 3, 4, 5, 6] [2, 7] rfl rfl (by decide) (by decide) hk1 hFc hP1 hD1
      clear hP hD
      obtain ⟨hP, hD⟩ := hPD
      replace hK := (hK.sub (tys' := [(cf127, .int), (cf105, .int)]) [1, 6] rfl).app hK1
      clear hPc hDc hKc hFc hP1 hK1 hD1 hz1 hk1 ht hvm
      generalize H1 = H at hP hS ⊢
      replace hP : va_P (dC, dI) vwCl [(qf127, .inl (cf127, 30, .inl f127)), (qf105, .inl (cf105, 8, .inl f105)), (h0, .inr (13, z_2)), (qf100, .inl (cf100, 48000, .inl f100)), (qf102, .inl (cf102, 2048, .inl f102)), (qf104, .inl (cf104, 8, .inl f104)), (qf118, .inl (cf118, 2100, .inl g902_1)), (qf119, .inl (cf119, 2100, .inl g902_2))] H := hP
      replace hD : va_D A [(qf127, .inl (cf127, 30, .inl f127)), (qf105, .inl (cf105, 8, .inl f105)), (h0, .inr (13, z_2)), (qf100, .inl (cf100, 48000, .inl f100)), (qf102, .inl (cf102, 2048, .inl f102)), (qf104, .inl (cf104, 8, .inl f104)), (qf118, .inl (cf118, 2100, .inl g902_1)), (qf119, .inl (cf119, 2100, .inl g902_2))] := hD
      replace hK : va_K (dC, dI) vwCl [(cf127, .int), (cf105, .int), (cf100, .int), (cf102, .int), (cf104, .int), (cf118, .int), (cf119, .int)] s := hK
      obtain ⟨hwa_2, hln_2, hre_2, hch_2_117, hch_2_120⟩ := hw
      have hfk_2_98 : z_2[98]? = some (.int v98) := (hre_2 98 (by decide) (by decide)).trans (hfh_20_98)
      have hfk_2_100 : z_2[100]? = some (.ref qf100) := (hre_2 100 (by decide) (by decide)).trans (hfh_20_100)
      have hfk_2_102 : z_2[102]? = some (.ref qf102) := (hre_2 102 (by decide) (by decide)).trans (hfh_20_102)
      have hfk_2_104 : z_2[104]? = some (.ref qf104) := (hre_2 104 (by decide) (by decide)).trans (hfh_20_104)
      have hfk_2_105 : z_2[105]? = some (.ref qf105) := (hre_2 105 (by decide) (by decide)).trans (hfh_20_105)
      have hfk_2_118 : z_2[118]? = some (.ref qf118) := (hre_2 118 (by decide) (by decide)).trans (hfh_20_118)
      have hfk_2_119 : z_2[119]? = some (.ref qf119) := (hre_2 119 (by decide) (by decide)).trans (hfh_20_119)
      have hfk_2_127 : z_2[127]? = some (.ref qf127) := (hre_2 127 (by decide) (by decide)).trans (hfh_20_127)
      have hfk_2_132 : z_2[132]? = some (.int v132) := (hre_2 132 (by decide) (by decide)).trans (hfh_20_132)
      have hrq_2 : ∀ j : Nat, j ≠ 117 → j ≠ 120 → z_2[j]? = zs[j]? := fun j g117 g120 => (hre_2 j g117 g120).trans (hrh_20 j g117 g120)
      obtain rfl := hwa_2
      obtain ⟨u3_0, hu_3, hsp⟩ := ox_bind hsp
      try dsimp only at hsp
      have hPc := hP.sub (ws' := [(h0, .inr (13, z_2)), (qf105, .inl (cf105, 8, .inl f105)), (qf102, .inl (cf102, 2048, .inl f102)), (qf100, .inl (cf100, 48000, .inl f100)), (qf104, .inl (cf104, 8, .inl f104))]) [2, 1, 4, 3, 5] rfl
      have hDc := hD.sub (ws' := [(h0, .inr (13, z_2)), (qf105, .inl (cf105, 8, .inl f105)), (qf102, .inl (cf102, 2048, .inl f102)), (qf100, .inl (cf100, 48000, .inl f100)), (qf104, .inl (cf104, 8, .inl f104))]) [2, 1, 4, 3, 5] (by decide) rfl
      have hKc := hK.sub (tys' := [(cf105, .int), (cf102, .int), (cf100, .int), (cf104, .int)]) [1, 3, 2, 4] rfl
      have hFc := va_free (wc := [(h0, .inr (13, z_2)), (qf105, .inl (cf105, 8, .inl f105)), (qf102, .inl (cf102, 2048, .inl f102)), (qf100, .inl (cf100, 48000, .inl f100)), (qf104, .inl (cf104, 8, .inl f104))]) hD hS hA [2, 1, 4, 3, 5] rfl
      refine va_calli (va_runV (As := [.int (f127 (l4_20 : Int32).toNatClampNeg), .int u2_0]) (rest := []) ⟨hx, hb, hml, hown, hts⟩ (vm_goes l dC dI H.size h0 z_2 ((f127 (l4_20 : Int32).toNatClampNeg)) u2_0 v98 qf100 qf102 qf104 qf105 cf105 f105 cf102 f102 cf100 f100 cf104 f104 nS477 fS477 hS477 qS477 tS477 nf u3_0 hln_2 hfk_2_98 hfk_2_100 hfk_2_102 hfk_2_104 hfk_2_105 hu_3) (cwV 2 hts gv_h9_110 rfl rfl rfl (by decide +kernel) ⟨Nat.le_of_ble_eq_true rfl, Nat.le_of_ble_eq_true rfl⟩) ⟨fun a U g mk q => by obtain ⟨q0, q1, qP, qK, qD, qhZWS477, qhZRS477⟩ := q; exact ⟨q0, q1, qP, va_K.moved (u := U) (U := U.calling g mk a) (Vm.Alike.refl U.vm) qK, qD, pz_W.moved (u := U) (U := U.calling g mk a) (Vm.Alike.refl U.vm) qhZWS477, vk_R.same rfl qhZRS477⟩, va_recv hKc hPc (ci := 13) (q0 := 0) rfl rfl, fun U hU hW => ⟨rfl, by rw [hU], by rw [hU]; exact hPc, va_K.moved hW.alike hKc, hDc.weaken (fun _ _ _ _ => trivial), by rw [hU]; exact ((pz_W.moved hW.alike hZWS477).kept hS.2.1).narrow hFc, vk_R.warm hW hZRS477⟩⟩ rfl rfl hl.1 rfl (lv_room (Nat.le_of_ble_eq_true rfl)) dX13_localsFit_39 ⟨Nat.le_of_ble_eq_true rfl, Nat.le_of_ble_eq_true rfl⟩) hS (fun q _ h => hFc q h) hFc ?_
      clear hS
      intro r_5 u t H1 locs ht hvm hw hB hz1 hk1 hS
      obtain ⟨z_3, rfl⟩ : ∃ z, z = u := ⟨_, rfl⟩
      obtain ⟨hP1, hK1, hD1⟩ := hB
      rw [ht] at hP1
      have hK1 := va_K.moved hvm.symm hK1
      try dsimp only at hw
      have hPD := va_join (wr := [(qf127, .inl (cf127, 30, .inl f127)), (qf118, .inl (cf118, 2100, .inl g902_1)), (qf119, .inl (cf119, 2100, .inl g902_2))]) (w1 := [(h0, .inr (13, z_3)), (qf105, .inl (cf105, 8, .inl f105)), (qf102, .inl (cf102, 2048, .inl f102)), (qf100, .inl (cf100, 48000, .inl f100)), (qf104, .inl (cf104, 8, .inl f104))]) hP hD [2, 1, 4, 3, 5] [0, 6, 7] rfl rfl (by decide) (by decide) hk1 hFc hP1 hD1
      clear hP hD
      obtain ⟨hP, hD⟩ := hPD
      replace hK := (hK.sub (tys' := [(cf127, .int), (cf118, .int), (cf119, .int)]) [0, 5, 6] rfl).app hK1
      clear hPc hDc hKc hFc hP1 hK1 hD1 hz1 hk1 ht hvm
      generalize H1 = H at hP hS ⊢
      replace hP : va_P (dC, dI) vwCl [(qf127, .inl (cf127, 30, .inl f127)), (qf118, .inl (cf118, 2100, .inl g902_1)), (qf119, .inl (cf119, 2100, .inl g902_2)), (h0, .inr (13, z_3)), (qf105, .inl (cf105, 8, .inl f105)), (qf102, .inl (cf102, 2048, .inl f102)), (qf100, .inl (cf100, 48000, .inl f100)), (qf104, .inl (cf104, 8, .inl f104))] H := hP
      replace hD : va_D A [(qf127, .inl (cf127, 30, .inl f127)), (qf118, .inl (cf118, 2100, .inl g902_1)), (qf119, .inl (cf119, 2100, .inl g902_2)), (h0, .inr (13, z_3)), (qf105, .inl (cf105, 8, .inl f105)), (qf102, .inl (cf102, 2048, .inl f102)), (qf100, .inl (cf100, 48000, .inl f100)), (qf104, .inl (cf104, 8, .inl f104))] := hD
      replace hK : va_K (dC, dI) vwCl [(cf127, .int), (cf118, .int), (cf119, .int), (cf105, .int), (cf102, .int), (cf100, .int), (cf104, .int)] s := hK
      obtain ⟨hwa_3, hln_3, hre_3⟩ := hw
      have hfk_3_98 : z_3[98]? = some (.int v98) := (hre_3 98 ).trans (hfk_2_98)
      have hfk_3_100 : z_3[100]? = some (.ref qf100) := (hre_3 100 ).trans (hfk_2_100)
      have hfk_3_102 : z_3[102]? = some (.ref qf102) := (hre_3 102 ).trans (hfk_2_102)
      have hfk_3_104 : z_3[104]? = some (.ref qf104) := (hre_3 104 ).trans (hfk_2_104)
      have hfk_3_105 : z_3[105]? = some (.ref qf105) := (hre_3 105 ).trans (hfk_2_105)
      have hfk_3_117 : z_3[117]? = some (.int u2_3) := (hre_3 117 ).trans (hch_2_117)
      have hfk_3_118 : z_3[118]? = some (.ref qf118) := (hre_3 118 ).trans (hfk_2_118)
      have hfk_3_119 : z_3[119]? = some (.ref qf119) := (hre_3 119 ).trans (hfk_2_119)
      have hfk_3_120 : z_3[120]? = some (.int u2_4) := (hre_3 120 ).trans (hch_2_120)
      have hfk_3_127 : z_3[127]? = some (.ref qf127) := (hre_3 127 ).trans (hfk_2_127)
      have hfk_3_132 : z_3[132]? = some (.int v132) := (hre_3 132 ).trans (hfk_2_132)
      have hrq_3 : ∀ j : Nat, j ≠ 117 → j ≠ 120 → z_3[j]? = zs[j]? := fun j g117 g120 => (hre_3 j ).trans (hrq_2 j g117 g120)
      obtain ⟨rfl, hz_3⟩ := hwa_3
      rcases hz_3 with rfl | rfl
      · rw [if_pos rfl] at hsp
        refine lv_if_ne (tgt := 47) hx hb dX13_localsFit_42 (by decide) (fun c_6 => (show False by revert c_6; decide).elim) (fun c_6 => ?_)
        refine lv_iconst (v := 0) hx hb dX13_localsFit_45 (by decide) ?_
        have hr0 := Option.some.inj hsp
        clear hsp
        obtain ⟨hq0, hr1⟩ := Prod.mk.inj hr0
        clear hr0
        obtain ⟨hq1, hr2⟩ := Prod.mk.inj hr1
        clear hr1
        obtain ⟨hq2, hr3⟩ := Prod.mk.inj hr2
        clear hr2
        obtain ⟨hq3, hr4⟩ := Prod.mk.inj hr3
        clear hr3
        subst hq0
        subst hq1
        subst hq2
        subst hq3
        subst hr4
        have hP9 := hP.sub (ws' := [(h0, .inr (13, z_3)), (qf100, .inl (cf100, 48000, .inl f100)), (qf127, .inl (cf127, 30, .inl f127)), (qf102, .inl (cf102, 2048, .inl f102)), (qf104, .inl (cf104, 8, .inl f104)), (qf118, .inl (cf118, 2100, .inl g902_1)), (qf119, .inl (cf119, 2100, .inl g902_2)), (qf105, .inl (cf105, 8, .inl f105))]) [3, 6, 0, 5, 7, 1, 2, 4] rfl
        have hD9 := hD.sub (ws' := [(h0, .inr (13, z_3)), (qf100, .inl (cf100, 48000, .inl f100)), (qf127, .inl (cf127, 30, .inl f127)), (qf102, .inl (cf102, 2048, .inl f102)), (qf104, .inl (cf104, 8, .inl f104)), (qf118, .inl (cf118, 2100, .inl g902_1)), (qf119, .inl (cf119, 2100, .inl g902_2)), (qf105, .inl (cf105, 8, .inl f105))]) [3, 6, 0, 5, 7, 1, 2, 4] (by decide) rfl
        have hK9 := hK.sub (tys' := [(cf100, .int), (cf127, .int), (cf102, .int), (cf104, .int), (cf118, .int), (cf119, .int), (cf105, .int)]) [5, 0, 4, 6, 1, 2, 3] rfl
        exact W.zret hx hb hr (by decide) (fun t ht hW => ⟨⟨(0), (z_3), rfl, ⟨⟨rfl, Or.inl rfl⟩, hln_3, hrq_3, hfk_3_117, hfk_3_120⟩, by rw [ht]; exact hP9, va_K.moved hW.alike hK9, hD9⟩, hS.F ht⟩) hS.2.2 dX13_localsFit_46
      · rw [if_neg (by decide)] at hsp
        refine lv_if_ne (tgt := 47) hx hb dX13_localsFit_42 (by decide) (fun c_7 => ?_) (fun c_7 => (show False by revert c_7; decide).elim)
        refine lv_iload_n hx hb dX13_localsFit_47 rfl (lv_at hl 1 rfl) ?_
        refine lv_aload_n hx hb dX13_localsFit_48 rfl (lv_at hl 3 rfl) ?_
        refine lv_aload_n hx hb dX13_localsFit_49 rfl (lv_at hl 3 rfl) ?_
        refine va_get (D := (dC, dI)) (ci := 13) (v := .int v132) (C := RX13) (T := TX13) (N := 155) hx hb hts uV_h9_X13 hown hK hP 3 rfl rfl 132 (by decide) (hts (.fieldLink RX13 932 "ClassMillModel" "inClass" "I") mw_h9_533) (fun _ h9 => h9) hfk_3_132 dX13_localsFit_50 ?_
        refine lv_iload_n hx hb dX13_localsFit_53 rfl (lv_at hl 1 rfl) ?_
        obtain ⟨u4_0, hu_4, hsp⟩ := ox_bind hsp
        try dsimp only at hsp
        have hPc := hP.sub (ws' := [(h0, .inr (13, z_3)), (qf100, .inl (cf100, 48000, .inl f100))]) [3, 6] rfl
        have hDc := hD.sub (ws' := [(h0, .inr (13, z_3)), (qf100, .inl (cf100, 48000, .inl f100))]) [3, 6] (by decide) rfl
        have hKc := hK.sub (tys' := [(cf100, .int)]) [5] rfl
        have hFc := va_free (wc := [(h0, .inr (13, z_3)), (qf100, .inl (cf100, 48000, .inl f100))]) hD hS hA [3, 6] rfl
        refine va_calli (va_runV (As := [.int v132, .int l2_20]) (rest := [.int l2_20]) ⟨hx, hb, hml, hown, hts⟩ (tm_byteAt l dC dI H.size h0 z_3 v132 l2_20 qf100 cf100 f100 nf u4_0 hln_3 hfk_3_100 hu_4) (cwV 2 hts gv_h9_58 rfl rfl rfl (by decide +kernel) ⟨Nat.le_of_ble_eq_true rfl, Nat.le_of_ble_eq_true rfl⟩) ⟨fun a U g mk q => by obtain ⟨q0, q1, qP, qK, qD⟩ := q; exact ⟨q0, q1, qP, va_K.moved (u := U) (U := U.calling g mk a) (Vm.Alike.refl U.vm) qK, qD⟩, va_recv hKc hPc (ci := 13) (q0 := 0) rfl rfl, fun U hU hW => ⟨rfl, by rw [hU], by rw [hU]; exact hPc, va_K.moved hW.alike hKc, hDc.weaken (fun _ _ _ _ => trivial)⟩⟩ rfl rfl hl.1 rfl (lv_room (Nat.le_of_ble_eq_true rfl)) dX13_localsFit_54 ⟨Nat.le_of_ble_eq_true rfl, Nat.le_of_ble_eq_true rfl⟩) hS (fun q _ h => hFc q h) hFc ?_
        clear hS
        intro r_8 u t H1 locs ht hvm hw hB hz1 hk1 hS
        obtain ⟨z_4, rfl⟩ : ∃ z, z = u := ⟨_, rfl⟩
        obtain ⟨hP1, hK1, hD1⟩ := hB
        rw [ht] at hP1
        have hK1 := va_K.moved hvm.symm hK1
        try dsimp only at hw
        have hPD := va_join (wr := [(qf127, .inl (cf127, 30, .inl f127)), (qf118, .inl (cf118, 2100, .inl g902_1)), (qf119, .inl (cf119, 2100, .inl g902_2)), (qf105, .inl (cf105, 8, .inl f105)), (qf102, .inl (cf102, 2048, .inl f102)), (qf104, .inl (cf104, 8, .inl f104))]) (w1 := [(h0, .inr (13, z_4)), (qf100, .inl (cf100, 48000, .inl f100))]) hP hD [3, 6] [0, 1, 2, 4, 5, 7] rfl rfl (by decide) (by decide) hk1 hFc hP1 hD1
        clear hP hD
        obtain ⟨hP, hD⟩ := hPD
        replace hK := (hK.sub (tys' := [(cf127, .int), (cf118, .int), (cf119, .int), (cf105, .int), (cf102, .int), (cf104, .int)]) [0, 1, 2, 3, 4, 6] rfl).app hK1
        clear hPc hDc hKc hFc hP1 hK1 hD1 hz1 hk1 ht hvm
        generalize H1 = H at hP hS ⊢
        replace hP : va_P (dC, dI) vwCl [(qf127, .inl (cf127, 30, .inl f127)), (qf118, .inl (cf118, 2100, .inl g902_1)), (qf119, .inl (cf119, 2100, .inl g902_2)), (qf105, .inl (cf105, 8, .inl f105)), (qf102, .inl (cf102, 2048, .inl f102)), (qf104, .inl (cf104, 8, .inl f104)), (h0, .inr (13, z_4)), (qf100, .inl (cf100, 48000, .inl f100))] H := hP
        replace hD : va_D A [(qf127, .inl (cf127, 30, .inl f127)), (qf118, .inl (cf118, 2100, .inl g902_1)), (qf119, .inl (cf119, 2100, .inl g902_2)), (qf105, .inl (cf105, 8, .inl f105)), (qf102, .inl (cf102, 2048, .inl f102)), (qf104, .inl (cf104, 8, .inl f104)), (h0, .inr (13, z_4)), (qf100, .inl (cf100, 48000, .inl f100))] := hD
        replace hK : va_K (dC, dI) vwCl [(cf127, .int), (cf118, .int), (cf119, .int), (cf105, .int), (cf102, .int), (cf104, .int), (cf100, .int)] s := hK
        obtain ⟨hwa_4, hln_4, hre_4⟩ := hw
        have hfk_4_98 : z_4[98]? = some (.int v98) := (hre_4 98 ).trans (hfk_3_98)
        have hfk_4_100 : z_4[100]? = some (.ref qf100) := (hre_4 100 ).trans (hfk_3_100)
        have hfk_4_102 : z_4[102]? = some (.ref qf102) := (hre_4 102 ).trans (hfk_3_102)
        have hfk_4_104 : z_4[104]? = some (.ref qf104) := (hre_4 104 ).trans (hfk_3_104)
        have hfk_4_105 : z_4[105]? = some (.ref qf105) := (hre_4 105 ).trans (hfk_3_105)
        have hfk_4_117 : z_4[117]? = some (.int u2_3) := (hre_4 117 ).trans (hfk_3_117)
        have hfk_4_118 : z_4[118]? = some (.ref qf118) := (hre_4 118 ).trans (hfk_3_118)
        have hfk_4_119 : z_4[119]? = some (.ref qf119) := (hre_4 119 ).trans (hfk_3_119)
        have hfk_4_120 : z_4[120]? = some (.int u2_4) := (hre_4 120 ).trans (hfk_3_120)
        have hfk_4_127 : z_4[127]? = some (.ref qf127) := (hre_4 127 ).trans (hfk_3_127)
        have hfk_4_132 : z_4[132]? = some (.int v132) := (hre_4 132 ).trans (hfk_3_132)
        have hrq_4 : ∀ j : Nat, j ≠ 117 → j ≠ 120 → z_4[j]? = zs[j]? := fun j g117 g120 => (hre_4 j ).trans (hrq_3 j g117 g120)
        obtain rfl := hwa_4
        refine lv_iconst (v := 3) hx hb dX13_localsFit_57 (by decide) ?_
        refine lv_icmp_ne (tgt := 65) hx hb dX13_localsFit_58 (by decide) (fun c_9 => ?_) (fun c_9 => ?_)
        · rw [if_neg c_9] at hsp
          refine lv_iconst (v := 1) hx hb dX13_localsFit_65 (by decide) ?_
          refine lv_iadd hx hb dX13_localsFit_66 ?_
          refine lv_istore_n (lv' := [(2, .int (l2_20 + 1)), (4, .int l4_20), (3, .int l3_20), (0, .ref h0)]) hx hb dX13_localsFit_67 rfl hl (by decide) rfl (fun ls hl => ?_)
          refine lv_iinc (v := (l4_20 + 1)) (lv' := [(4, .int (l4_20 + 1)), (2, .int (l2_20 + 1)), (3, .int l3_20), (0, .ref h0)]) hx hb dX13_localsFit_68 hl (k := 1) rfl rfl (by decide) rfl (fun ls hl => ?_)
          refine lv_goto (tgt := 20) hx hb dX13_localsFit_71 (by decide) ?_
          exact ih_20 H locs ls z_4 (l2_20 + 1) l3_20 (l4_20 + 1) g902_1 g902_2 u2_3 u2_4 (hfk_4_98) (hfk_4_100) (hfk_4_102) (hfk_4_104) (hfk_4_105) (hfk_4_117) (hfk_4_118) (hfk_4_119) (hfk_4_120) (hfk_4_127) (hfk_4_132) hln_4 hrq_4 (lv_sub hl [0, 1, 2, 3] rfl) hS (hD.sub (ws' := [(h0, .inr (13, z_4)), (qf100, .inl (cf100, 48000, .inl f100)), (qf127, .inl (cf127, 30, .inl f127)), (qf102, .inl (cf102, 2048, .inl f102)), (qf104, .inl (cf104, 8, .inl f104)), (qf118, .inl (cf118, 2100, .inl g902_1)), (qf119, .inl (cf119, 2100, .inl g902_2)), (qf105, .inl (cf105, 8, .inl f105))]) [6, 7, 0, 4, 5, 1, 2, 3] (by decide) rfl) (hP.sub (ws' := [(h0, .inr (13, z_4)), (qf100, .inl (cf100, 48000, .inl f100)), (qf127, .inl (cf127, 30, .inl f127)), (qf102, .inl (cf102, 2048, .inl f102)), (qf104, .inl (cf104, 8, .inl f104)), (qf118, .inl (cf118, 2100, .inl g902_1)), (qf119, .inl (cf119, 2100, .inl g902_2)), (qf105, .inl (cf105, 8, .inl f105))]) [6, 7, 0, 4, 5, 1, 2, 3] rfl) hsp
        · rw [if_pos c_9] at hsp
          refine lv_iconst (v := 2) hx hb dX13_localsFit_61 (by decide) ?_
          refine lv_goto (tgt := 66) hx hb dX13_localsFit_62 (by decide) ?_
          refine lv_iadd hx hb dX13_localsFit_66 ?_
          refine lv_istore_n (lv' := [(2, .int (l2_20 + 2)), (4, .int l4_20), (3, .int l3_20), (0, .ref h0)]) hx hb dX13_localsFit_67 rfl hl (by decide) rfl (fun ls hl => ?_)
          refine lv_iinc (v := (l4_20 + 1)) (lv' := [(4, .int (l4_20 + 1)), (2, .int (l2_20 + 2)), (3, .int l3_20), (0, .ref h0)]) hx hb dX13_localsFit_68 hl (k := 1) rfl rfl (by decide) rfl (fun ls hl => ?_)
          refine lv_goto (tgt := 20) hx hb dX13_localsFit_71 (by decide) ?_
          exact ih_20 H locs ls z_4 (l2_20 + 2) l3_20 (l4_20 + 1) g902_1 g902_2 u2_3 u2_4 (hfk_4_98) (hfk_4_100) (hfk_4_102) (hfk_4_104) (hfk_4_105) (hfk_4_117) (hfk_4_118) (hfk_4_119) (hfk_4_120) (hfk_4_127) (hfk_4_132) hln_4 hrq_4 (lv_sub hl [0, 1, 2, 3] rfl) hS (hD.sub (ws' := [(h0, .inr (13, z_4)), (qf100, .inl (cf100, 48000, .inl f100)), (qf127, .inl (cf127, 30, .inl f127)), (qf102, .inl (cf102, 2048, .inl f102)), (qf104, .inl (cf104, 8, .inl f104)), (qf118, .inl (cf118, 2100, .inl g902_1)), (qf119, .inl (cf119, 2100, .inl g902_2)), (qf105, .inl (cf105, 8, .inl f105))]) [6, 7, 0, 4, 5, 1, 2, 3] (by decide) rfl) (hP.sub (ws' := [(h0, .inr (13, z_4)), (qf100, .inl (cf100, 48000, .inl f100)), (qf127, .inl (cf127, 30, .inl f127)), (qf102, .inl (cf102, 2048, .inl f102)), (qf104, .inl (cf104, 8, .inl f104)), (qf118, .inl (cf118, 2100, .inl g902_1)), (qf119, .inl (cf119, 2100, .inl g902_2)), (qf105, .inl (cf105, 8, .inl f105))]) [6, 7, 0, 4, 5, 1, 2, 3] rfl) hsp
def lp_vm_stackFits_34 (nf n : Nat) (a1 : Int32) (v98 : Int32) (v117 : Int32) (v120 : Int32) (v131 : Int32) (v132 : Int32) (f100 : Nat → Int32) (f128 : Nat → Int32) (f102 : Nat → Int32) (f104 : Nat → Int32) (f118 : Nat → Int32) (f119 : Nat → Int32) (f105 : Nat → Int32) (nS477 : Nat) (fS477 : Nat → Int32)  (l2_34 : Int32) (l3_34 : Int32) (l4_34 : Int32) (g118_34 : Nat → Int32) (g119_34 : Nat → Int32) (x117_34 : Int32) (x120_34 : Int32) : Option (Int32 × (Nat → Int32) × (Nat → Int32) × Int32 × Int32) := match n with
  | 0 => none
  | n + 1 => (if l3_34 ≤ l4_34 then (some (1, g118_34, g119_34, x117_34, x120_34)) else (if l4_34 < 0 then none else if 31 ≤ (l4_34 : Int32).toNatClampNeg then none else ((sp_vm_framed nf l2_34 v98 x117_34 x120_34 v132 f100 f102 f104 g118_34 g119_34 nS477 fS477).bind (fun p1 => ((sp_vm_goes nf (f128 (l4_34 : Int32).toNatClampNeg) p1.1 v98 f105 f102 f100 f104 nS477 fS477).bind (fun p2 => (if p2 = 0 then (some (0, p1.2.1, p1.2.2.1, p1.2.2.2.1, p1.2.2.2.2)) else ((sp_tm_byteAt nf v132 l2_34 f100).bind (fun p3 => (if p3 = 3 then (lp_vm_stackFits_34 nf n a1 v98 v117 v120 v131 v132 f100 f128 f102 f104 f118 f119 f105 nS477 fS477 (l2_34 + 2) l3_34 (l4_34 + 1) p1.2.1 p1.2.2.1 p1.2.2.2.1 p1.2.2.2.2) else (lp_vm_stackFits_34 nf n a1 v98 v117 v120 v131 v132 f100 f128 f102 f104 f118 f119 f105 nS477 fS477 (l2_34 + 1) l3_34 (l4_34 + 1) p1.2.1 p1.2.2.1 p1.2.2.2.1 p1.2.2.2.2)))))))))))
def sp_vm_stackFits (nf : Nat) (a1 : Int32) (v98 : Int32) (v117 : Int32) (v120 : Int32) (v131 : Int32) (v132 : Int32) (f100 : Nat → Int32) (f128 : Nat → Int32) (f102 : Nat → Int32) (f104 : Nat → Int32) (f118 : Nat → Int32) (f119 : Nat → Int32) (f105 : Nat → Int32) (nS477 : Nat) (fS477 : Nat → Int32) : Option (Int32 × (Nat → Int32) × (Nat → Int32) × Int32 × Int32) := ((sp_tn_typesEnd nf (a1 + 2) v132 f100).bind (fun p1 => ((sp_tm_byteAt nf v132 p1 f100).bind (fun p2 => (if p2 = v131 then (lp_vm_stackFits_34 nf nf a1 v98 v117 v120 v131 v132 f100 f128 f102 f104 f118 f119 f105 nS477 fS477  (p1 + 1) p2 0 f118 f119 v117 v120) else (some (0, f118, f119, v117, v120)))))))
set_option maxHeartbeats 4000000 in
set_option maxRecDepth 100000 in
/-- ClassMillModel.stackFits -/
theorem vm_stackFits (l : Launch) (dC : Nat → ClassId) (dI : Nat → Nat → Nat) (sz : Nat) (h0 : Nat) (zs : (List Value)) (a1 : Int32) (v98 : Int32) (qf100 : Nat) (qf102 : Nat) (qf104 : Nat) (qf105 : Nat) (v117 : Int32) (qf118 : Nat) (qf119 : Nat) (v120 : Int32) (qf128 : Nat) (v131 : Int32) (v132 : Int32) (cf100 : ClassId) (f100 : (Nat → Int32)) (cf128 : ClassId) (f128 : (Nat → Int32)) (cf102 : ClassId) (f102 : (Nat → Int32)) (cf104 : ClassId) (f104 : (Nat → Int32)) (cf118 : ClassId) (f118 : (Nat → Int32)) (cf119 : ClassId) (f119 : (Nat → Int32)) (cf105 : ClassId) (f105 : (Nat → Int32)) (nS477 : Nat) (fS477 : (Nat → Int32)) (hS477 : Nat) (qS477 : Nat) (tS477 : String) (nf : Nat) (r0 : Int32) (o118 : (Nat → Int32)) (o119 : (Nat → Int32)) (w117 : Int32) (w120 : Int32) (hlen : zs.length = 155) (hf98 : zs[98]? = some (.int v98)) (hf100 : zs[100]? = some (.ref qf100)) (hf102 : zs[102]? = some (.ref qf102)) (hf104 : zs[104]? = some (.ref qf104)) (hf105 : zs[105]? = some (.ref qf105)) (hf117 : zs[117]? = some (.int v117)) (hf118 : zs[118]? = some (.ref qf118)) (hf119 : zs[119]? = some (.ref qf119)) (hf120 : zs[120]? = some (.int v120)) (hf128 : zs[128]? = some (.ref qf128)) (hf131 : zs[131]? = some (.int v131)) (hf132 : zs[132]? = some (.int v132)) (hsp : sp_vm_stackFits nf a1 v98 v117 v120 v131 v132 f100 f128 f102 f104 f118 f119 f105 nS477 fS477 = some (r0, o118, o119, w117, w120)) : Met l yX13_stackFits (.code yX13_stackFits cX13_stackFits 5 (some .boolean) :: VS_h9) ({ frames := 10, cells := 0, slots := 0, locals := 232 }) (va_Pc [.ref h0, .int a1] (fun U => U.heap.size = sz ∧ va_P (dC, dI) vwCl [(h0, .inr (13, zs)), (qf100, .inl (cf100, 48000, .inl f100)), (qf128, .inl (cf128, 31, .inl f128)), (qf102, .inl (cf102, 2048, .inl f102)), (qf104, .inl (cf104, 8, .inl f104)), (qf118, .inl (cf118, 2100, .inl f118)), (qf119, .inl (cf119, 2100, .inl f119)), (qf105, .inl (cf105, 8, .inl f105))] U.heap ∧ va_K (dC, dI) vwCl [(cf100, .int), (cf128, .int), (cf102, .int), (cf104, .int), (cf118, .int), (cf119, .int), (cf105, .int)] U ∧ va_D (fun _ => True) [(h0, .inr (13, zs)), (qf100, .inl (cf100, 48000, .inl f100)), (qf128, .inl (cf128, 31, .inl f128)), (qf102, .inl (cf102, 2048, .inl f102)), (qf104, .inl (cf104, 8, .inl f104)), (qf118, .inl (cf118, 2100, .inl f118)), (qf119, .inl (cf119, 2100, .inl f119)), (qf105, .inl (cf105, 8, .inl f105))] ∧ pz_W nS477 fS477 hS477 qS477 (va_A [(h0, .inr (13, zs)), (qf100, .inl (cf100, 48000, .inl f100)), (qf128, .inl (cf128, 31, .inl f128)), (qf102, .inl (cf102, 2048, .inl f102)), (qf104, .inl (cf104, 8, .inl f104)), (qf118, .inl (cf118, 2100, .inl f118)), (qf119, .inl (cf119, 2100, .inl f119)), (qf105, .inl (cf105, 8, .inl f105))] sz) U U.heap ∧ vk_R RX13 477 tS477 hS477 U)) (va_Qi (fun (r : Int32) (u : (List Value)) => match u with | (zo1) => (r0 = r ∧ (r0 = 0 ∨ r0 = 1)) ∧ zo1.length = 155 ∧ (∀ j : Nat, j ≠ 117 → j ≠ 120 → zo1[j]? = zs[j]?) ∧ zo1[117]? = some (.int w117) ∧ zo1[120]? = some (.int w120)) (fun (u : (List Value)) (t : State) => match u with | (zo1) => va_P (dC, dI) vwCl [(h0, .inr (13, zo1)), (qf100, .inl (cf100, 48000, .inl f100)), (qf128, .inl (cf128, 31, .inl f128)), (qf102, .inl (cf102, 2048, .inl f102)), (qf104, .inl (cf104, 8, .inl f104)), (qf118, .inl (cf118, 2100, .inl o118)), (qf119, .inl (cf119, 2100, .inl o119)), (qf105, .inl (cf105, 8, .inl f105))] t.heap ∧ va_K (dC, dI) vwCl [(cf100, .int), (cf128, .int), (cf102, .int), (cf104, .int), (cf118, .int), (cf119, .int), (cf105, .int)] t ∧ va_D (va_A [(h0, .inr (13, zs)), (qf100, .inl (cf100, 48000, .inl f100)), (qf128, .inl (cf128, 31, .inl f128)), (qf102, .inl (cf102, 2048, .inl f102)), (qf104, .inl (cf104, 8, .inl f104)), (qf118, .inl (cf118, 2100, .inl f118)), (qf119, .inl (cf119, 2100, .inl f119)), (qf105, .inl (cf105, 8, .inl f105))] sz) [(h0, .inr (13, zo1)), (qf100, .inl (cf100, 48000, .inl f100)), (qf128, .inl (cf128, 31, .inl f128)), (qf102, .inl (cf102, 2048, .inl f102)), (qf104, .inl (cf104, 8, .inl f104)), (qf118, .inl (cf118, 2100, .inl o118)), (qf119, .inl (cf119, 2100, .inl o119)), (qf105, .inl (cf105, 8, .inl f105))]) (va_A [(h0, .inr (13, zs)), (qf100, .inl (cf100, 48000, .inl f100)), (qf128, .inl (cf128, 31, .inl f128)), (qf102, .inl (cf102, 2048, .inl f102)), (qf104, .inl (cf104, 8, .inl f104)), (qf118, .inl (cf118, 2100, .inl f118)), (qf119, .inl (cf119, 2100, .inl f119)), (qf105, .inl (cf105, 8, .inl f105))] sz)) 0 0 (va_A [(h0, .inr (13, zs)), (qf100, .inl (cf100, 48000, .inl f100)), (qf128, .inl (cf128, 31, .inl f128)), (qf102, .inl (cf102, 2048, .inl f102)), (qf104, .inl (cf104, 8, .inl f104)), (qf118, .inl (cf118, 2100, .inl f118)), (qf119, .inl (cf119, 2100, .inl f119)), (qf105, .inl (cf105, 8, .inl f105))] sz) := by
  refine Met.ofW (cc := cX13_stackFits) (maxL := 5) (ret := (some .boolean)) (by decide) rfl ?_
  intro p e s m args below meth c s₁ B hml hv
  obtain ⟨rfl, hsz, hP, hK, hD0, hZWS477, hZRS477⟩ := hv
  have hx := B.exec
  have hb := B.bytes
  have hr := B.returns
  have hts := atoms_spec (ws := (.code yX13_stackFits cX13_stackFits 5 (some .boolean) :: VS_h9)) B.pre
  replace hts := fun w (h : w ∈ VS_h9) => hts w (List.mem_cons_of_mem _ h)
  have hown : s.vm.findClass RX13 = some m.cls := findClass_of_methodNamed B.named
  have hlocks := B.notSynchronized
  subst hsz
  have hD := hD0.self (sz := s.heap.size)
  generalize hAe : va_A [(h0, .inr (13, zs)), (qf100, .inl (cf100, 48000, .inl f100)), (qf128, .inl (cf128, 31, .inl f128)), (qf102, .inl (cf102, 2048, .inl f102)), (qf104, .inl (cf104, 8, .inl f104)), (qf118, .inl (cf118, 2100, .inl f118)), (qf119, .inl (cf119, 2100, .inl f119)), (qf105, .inl (cf105, 8, .inl f105))] s.heap.size = A at hD hZWS477 ⊢
  have hA : ∀ q : Nat, s.heap.size ≤ q → A q := fun q h => by rw [← hAe]; exact Or.inr h
  have hP : va_P (dC, dI) vwCl [(h0, .inr (13, zs)), (qf100, .inl (cf100, 48000, .inl f100)), (qf128, .inl (cf128, 31, .inl f128)), (qf102, .inl (cf102, 2048, .inl f102)), (qf104, .inl (cf104, 8, .inl f104)), (qf118, .inl (cf118, 2100, .inl f118)), (qf119, .inl (cf119, 2100, .inl f119)), (qf105, .inl (cf105, 8, .inl f105))] s.heap := hP
  have hl := lv_entry ([.ref h0, .int a1]) (n := 5) (Nat.le_of_ble_eq_true rfl)
  rw [lg_entry_eq]
  generalize (lg_sl ([.ref h0, .int a1]) ++ List.replicate (5 - (lg_sl ([.ref h0, .int a1])).length) Slot.unset).toArray = ls at hl ⊢
  have hl : lv_has ls 5 [(0, .ref h0), (1, .int a1)] := hl
  obtain ⟨H, hH⟩ : ∃ H : Heap, s.heap = H := ⟨_, rfl⟩
  rw [hH] at hP ⊢
  have hS : va_S A s.heap H [] := by rw [← hH]; exact va_S.rf
  obtain ⟨locs, hlo⟩ : ∃ locs : List Loc, locs = [] := ⟨_, rfl⟩
  rw [← hlo] at hS ⊢
  have hrs0 : ∀ j : Nat, j ≠ 117 → j ≠ 120 → zs[j]? = zs[j]? := fun _ _ _  => rfl
  unfold sp_vm_stackFits at hsp
  refine lv_aload_n hx hb dX13_stackFits_0 rfl (lv_at hl 0 rfl) ?_
  refine lv_iload_n hx hb dX13_stackFits_1 rfl (lv_at hl 1 rfl) ?_
  refine lv_iconst (v := 2) hx hb dX13_stackFits_2 (by decide) ?_
  refine lv_iadd hx hb dX13_stackFits_3 ?_
  obtain ⟨u1_0, hu_1, hsp⟩ := ox_bind hsp
  try dsimp only at hsp
  have hPc := hP.sub (ws' := [(h0, .inr (13, zs)), (qf100, .inl (cf100, 48000, .inl f100))]) [0, 1] rfl
  have hDc := hD.sub (ws' := [(h0, .inr (13, zs)), (qf100, .inl (cf100, 48000, .inl f100))]) [0, 1] (by decide) rfl
  have hKc := hK.sub (tys' := [(cf100, .int)]) [0] rfl
  have hFc := va_free (wc := [(h0, .inr (13, zs)), (qf100, .inl (cf100, 48000, .inl f100))]) hD hS hA [0, 1] rfl
  refine va_calli (va_runV (As := [.int (a1 + 2)]) (rest := []) ⟨hx, hb, hml, hown, hts⟩ (tn_typesEnd l dC dI H.size h0 zs ((a1 + 2)) qf100 v132 cf100 f100 nf u1_0 hlen hf100 hf132 hu_1) (cwV 1 hts gv_h9_59 rfl rfl rfl (by decide +kernel) ⟨Nat.le_of_ble_eq_true rfl, Nat.le_of_ble_eq_true rfl⟩) ⟨fun a U g mk q => by obtain ⟨q0, q1, qP, qK, qD⟩ := q; exact ⟨q0, q1, qP, va_K.moved (u := U) (U := U.calling g mk a) (Vm.Alike.refl U.vm) qK, qD⟩, va_recv hKc hPc (ci := 13) (q0 := 0) rfl rfl, fun U hU hW => ⟨rfl, by rw [hU], by rw [hU]; exact hPc, va_K.moved hW.alike hKc, hDc.weaken (fun _ _ _ _ => trivial)⟩⟩ rfl rfl hl.1 rfl (lv_room (Nat.le_of_ble_eq_true rfl)) dX13_stackFits_4 ⟨Nat.le_of_ble_eq_true rfl, Nat.le_of_ble_eq_true rfl⟩) hS (fun q _ h => hFc q h) hFc ?_
  clear hS
  intro r_1 u t H1 locs ht hvm hw hB hz1 hk1 hS
  obtain ⟨z_1, rfl⟩ : ∃ z, z = u := ⟨_, rfl⟩
  obtain ⟨hP1, hK1, hD1⟩ := hB
  rw [ht] at hP1
  have hK1 := va_K.moved hvm.symm hK1
  try dsimp only at hw
  have hPD := va_join (wr := [(qf128, .inl (cf128, 31, .inl f128)), (qf102, .inl (cf102, 2048, .inl f102)), (qf104, .inl (cf104, 8, .inl f104)), (qf118, .inl (cf118, 2100, .inl f118)), (qf119, .inl (cf119, 2100, .inl f119)), (qf105, .inl (cf105, 8, .inl f105))]) (w1 := [(h0, .inr (13, z_1)), (qf100, .inl (cf100, 48000, .inl f100))]) hP hD [0, 1] [2, 3, 4, 5, 6, 7] rfl rfl (by decide) (by decide) hk1 hFc hP1 hD1
  clear hP hD
  obtain ⟨hP, hD⟩ := hPD
  replace hK := (hK.sub (tys' := [(cf128, .int), (cf102, .int), (cf104, .int), (cf118, .int), (cf119, .int), (cf105, .int)]) [1, 2, 3, 4, 5, 6] rfl).app hK1
  clear hPc hDc hKc hFc hP1 hK1 hD1 hz1 hk1 ht hvm
  generalize H1 = H at hP hS ⊢
  replace hP : va_P (dC, dI) vwCl [(qf128, .inl (cf128, 31, .inl f128)), (qf102, .inl (cf102, 2048, .inl f102)), (qf104, .inl (cf104, 8, .inl f104)), (qf118, .inl (cf118, 2100, .inl f118)), (qf119, .inl (cf119, 2100, .inl f119)), (qf105, .inl (cf105, 8, .inl f105)), (h0, .inr (13, z_1)), (qf100, .inl (cf100, 48000, .inl f100))] H := hP
  replace hD : va_D A [(qf128, .inl (cf128, 31, .inl f128)), (qf102, .inl (cf102, 2048, .inl f102)), (qf104, .inl (cf104, 8, .inl f104)), (qf118, .inl (cf118, 2100, .inl f118)), (qf119, .inl (cf119, 2100, .inl f119)), (qf105, .inl (cf105, 8, .inl f105)), (h0, .inr (13, z_1)), (qf100, .inl (cf100, 48000, .inl f100))] := hD
  replace hK : va_K (dC, dI) vwCl [(cf128, .int), (cf102, .int), (cf104, .int), (cf118, .int), (cf119, .int), (cf105, .int), (cf100, .int)] s := hK
  obtain ⟨hwa_1, hln_1, hre_1⟩ := hw
  have hfk_1_98 : z_1[98]? = some (.int v98) := (hre_1 98 ).trans (hf98)
  have hfk_1_100 : z_1[100]? = some (.ref qf100) := (hre_1 100 ).trans (hf100)
  have hfk_1_102 : z_1[102]? = some (.ref qf102) := (hre_1 102 ).trans (hf102)
  have hfk_1_104 : z_1[104]? = some (.ref qf104) := (hre_1 104 ).trans (hf104)
  have hfk_1_105 : z_1[105]? = some (.ref qf105) := (hre_1 105 ).trans (hf105)
  have hfk_1_117 : z_1[117]? = some (.int v117) := (hre_1 117 ).trans (hf117)
  have hfk_1_118 : z_1[118]? = some (.ref qf118) := (hre_1 118 ).trans (hf118)
  have hfk_1_119 : z_1[119]? = some (.ref qf119) := (hre_1 119 ).trans (hf119)
  have hfk_1_120 : z_1[120]? = some (.int v120) := (hre_1 120 ).trans (hf120)
  have hfk_1_128 : z_1[128]? = some (.ref qf128) := (hre_1 128 ).trans (hf128)
  have hfk_1_131 : z_1[131]? = some (.int v131) := (hre_1 131 ).trans (hf131)
  have hfk_1_132 : z_1[132]? = some (.int v132) := (hre_1 132 ).trans (hf132)
  have hrq_1 : ∀ j : Nat, j ≠ 117 → j ≠ 120 → z_1[j]? = zs[j]? := fun j g117 g120 => (hre_1 j ).trans (hrs0 j g117 g120)
  obtain rfl := hwa_1
  refine lv_istore_n (lv' := [(2, .int u1_0), (0, .ref h0), (1, .int a1)]) hx hb dX13_stackFits_7 rfl hl (by decide) rfl (fun ls hl => ?_)
  refine lv_aload_n hx hb dX13_stackFits_8 rfl (lv_at hl 1 rfl) ?_
  refine lv_aload_n hx hb dX13_stackFits_9 rfl (lv_at hl 1 rfl) ?_
  refine va_get (D := (dC, dI)) (ci := 13) (v := .int v132) (C := RX13) (T := TX13) (N := 155) hx hb hts uV_h9_X13 hown hK hP 6 rfl rfl 132 (by decide) (hts (.fieldLink RX13 932 "ClassMillModel" "inClass" "I") mw_h9_533) (fun _ h9 => h9) hfk_1_132 dX13_stackFits_10 ?_
  refine lv_iload_n hx hb dX13_stackFits_13 rfl (lv_at hl 0 rfl) ?_
  obtain ⟨u2_0, hu_2, hsp⟩ := ox_bind hsp
  try dsimp only at hsp
  have hPc := hP.sub (ws' := [(h0, .inr (13, z_1)), (qf100, .inl (cf100, 48000, .inl f100))]) [6, 7] rfl
  have hDc := hD.sub (ws' := [(h0, .inr (13, z_1)), (qf100, .inl (cf100, 48000, .inl f100))]) [6, 7] (by decide) rfl
  have hKc := hK.sub (tys' := [(cf100, .int)]) [6] rfl
  have hFc := va_free (wc := [(h0, .inr (13, z_1)), (qf100, .inl (cf100, 48000, .inl f100))]) hD hS hA [6, 7] rfl
  refine va_calli (va_runV (As := [.int v132, .int u1_0]) (rest := []) ⟨hx, hb, hml, hown, hts⟩ (tm_byteAt l dC dI H.size h0 z_1 v132 u1_0 qf100 cf100 f100 nf u2_0 hln_1 hfk_1_100 hu_2) (cwV 2 hts gv_h9_58 rfl rfl rfl (by decide +kernel) ⟨Nat.le_of_ble_eq_true rfl, Nat.le_of_ble_eq_true rfl⟩) ⟨fun a U g mk q => by obtain ⟨q0, q1, qP, qK, qD⟩ := q; exact ⟨q0, q1, qP, va_K.moved (u := U) (U := U.calling g mk a) (Vm.Alike.refl U.vm) qK, qD⟩, va_recv hKc hPc (ci := 13) (q0 := 0) rfl rfl, fun U hU hW => ⟨rfl, by rw [hU], by rw [hU]; exact hPc, va_K.moved hW.alike hKc, hDc.weaken (fun _ _ _ _ => trivial)⟩⟩ rfl rfl hl.1 rfl (lv_room (Nat.le_of_ble_eq_true rfl)) dX13_stackFits_14 ⟨Nat.le_of_ble_eq_true rfl, Nat.le_of_ble_eq_true rfl⟩) hS (fun q _ h => hFc q h) hFc ?_
  clear hS
  intro r_2 u t H1 locs ht hvm hw hB hz1 hk1 hS
  obtain ⟨z_2, rfl⟩ : ∃ z, z = u := ⟨_, rfl⟩
  obtain ⟨hP1, hK1, hD1⟩ := hB
  rw [ht] at hP1
  have hK1 := va_K.moved hvm.symm hK1
  try dsimp only at hw
  have hPD := va_join (wr := [(qf128, .inl (cf128, 31, .inl f128)), (qf102, .inl (cf102, 2048, .inl f102)), (qf104, .inl (cf104, 8, .inl f104)), (qf118, .inl (cf118, 2100, .inl f118)), (qf119, .inl (cf119, 2100, .inl f119)), (qf105, .inl (cf105, 8, .inl f105))]) (w1 := [(h0, .inr (13, z_2)), (qf100, .inl (cf100, 48000, .inl f100))]) hP hD [6, 7] [0, 1, 2, 3, 4, 5] rfl rfl (by decide) (by decide) hk1 hFc hP1 hD1
  clear hP hD
  obtain ⟨hP, hD⟩ := hPD
  replace hK := (hK.sub (tys' := [(cf128, .int), (cf102, .int), (cf104, .int), (cf118, .int), (cf119, .int), (cf105, .int)]) [0, 1, 2, 3, 4, 5] rfl).app hK1
  clear hPc hDc hKc hFc hP1 hK1 hD1 hz1 hk1 ht hvm
  generalize H1 = H at hP hS ⊢
  replace hP : va_P (dC, dI) vwCl [(qf128, .inl (cf128, 31, .inl f128)), (qf102, .inl (cf102, 2048, .inl f102)), (qf104, .inl (cf104, 8, .inl f104)), (qf118, .inl (cf118, 2100, .inl f118)), (qf119, .inl (cf119, 2100, .inl f119)), (qf105, .inl (cf105, 8, .inl f105)), (h0, .inr (13, z_2)), (qf100, .inl (cf100, 48000, .inl f100))] H := hP
  replace hD : va_D A [(qf128, .inl (cf128, 31, .inl f128)), (qf102, .inl (cf102, 2048, .inl f102)), (qf104, .inl (cf104, 8, .inl f104)), (qf118, .inl (cf118, 2100, .inl f118)), (qf119, .inl (cf119, 2100, .inl f119)), (qf105, .inl (cf105, 8, .inl f105)), (h0, .inr (13, z_2)), (qf100, .inl (cf100, 48000, .inl f100))] := hD
  replace hK : va_K (dC, dI) vwCl [(cf128, .int), (cf102, .int), (cf104, .int), (cf118, .int), (cf119, .int), (cf105, .int), (cf100, .int)] s := hK
  obtain ⟨hwa_2, hln_2, hre_2⟩ := hw
  have hfk_2_98 : z_2[98]? = some (.int v98) := (hre_2 98 ).trans (hfk_1_98)
  have hfk_2_100 : z_2[100]? = some (.ref qf100) := (hre_2 100 ).trans (hfk_1_100)
  have hfk_2_102 : z_2[102]? = some (.ref qf102) := (hre_2 102 ).trans (hfk_1_102)
  have hfk_2_104 : z_2[104]? = some (.ref qf104) := (hre_2 104 ).trans (hfk_1_104)
  have hfk_2_105 : z_2[105]? = some (.ref qf105) := (hre_2 105 ).trans (hfk_1_105)
  have hfk_2_117 : z_2[117]? = some (.int v117) := (hre_2 117 ).trans (hfk_1_117)
  have hfk_2_118 : z_2[118]? = some (.ref qf118) := (hre_2 118 ).trans (hfk_1_118)
  have hfk_2_119 : z_2[119]? = some (.ref qf119) := (hre_2 119 ).trans (hfk_1_119)
  have hfk_2_120 : z_2[120]? = some (.int v120) := (hre_2 120 ).trans (hfk_1_120)
  have hfk_2_128 : z_2[128]? = some (.ref qf128) := (hre_2 128 ).trans (hfk_1_128)
  have hfk_2_131 : z_2[131]? = some (.int v131) := (hre_2 131 ).trans (hfk_1_131)
  have hfk_2_132 : z_2[132]? = some (.int v132) := (hre_2 132 ).trans (hfk_1_132)
  have hrq_2 : ∀ j : Nat, j ≠ 117 → j ≠ 120 → z_2[j]? = zs[j]? := fun j g117 g120 => (hre_2 j ).trans (hrq_1 j g117 g120)
  obtain rfl := hwa_2
  refine lv_istore_n (lv' := [(3, .int u2_0), (2, .int u1_0), (0, .ref h0), (1, .int a1)]) hx hb dX13_stackFits_17 rfl hl (by decide) rfl (fun ls hl => ?_)
  refine lv_iinc (v := (u1_0 + 1)) (lv' := [(2, .int (u1_0 + 1)), (3, .int u2_0), (0, .ref h0), (1, .int a1)]) hx hb dX13_stackFits_18 hl (k := 1) rfl rfl (by decide) rfl (fun ls hl => ?_)
  refine lv_iload_n hx hb dX13_stackFits_21 rfl (lv_at hl 1 rfl) ?_
  refine lv_aload_n hx hb dX13_stackFits_22 rfl (lv_at hl 2 rfl) ?_
  refine va_get (D := (dC, dI)) (ci := 13) (v := .int v131) (C := RX13) (T := TX13) (N := 155) hx hb hts uV_h9_X13 hown hK hP 6 rfl rfl 131 (by decide) (hts (.fieldLink RX13 961 "ClassMillModel" "stackMany" "I") mw_h9_543) (fun _ h9 => h9) hfk_2_131 dX13_stackFits_23 ?_
  refine lv_icmp_eq (tgt := 31) hx hb dX13_stackFits_26 (by decide) (fun c_3 => ?_) (fun c_3 => ?_)
  · rw [if_pos c_3] at hsp
    refine lv_iconst (v := 0) hx hb dX13_stackFits_31 (by decide) ?_
    refine lv_istore (lv' := [(4, .int 0), (2, .int (u1_0 + 1)), (3, .int u2_0), (0, .ref h0), (1, .int a1)]) hx hb dX13_stackFits_32 hl (by decide) rfl (fun ls hl => ?_)
    replace hl : lv_has ls 5 [(4, .int 0), (2, .int (u1_0 + 1)), (3, .int u2_0), (0, .ref h0)] := lv_sub hl [0, 1, 2, 3] rfl
    replace hP := hP.sub (ws' := [(h0, .inr (13, z_2)), (qf100, .inl (cf100, 48000, .inl f100)), (qf128, .inl (cf128, 31, .inl f128)), (qf102, .inl (cf102, 2048, .inl f102)), (qf104, .inl (cf104, 8, .inl f104)), (qf118, .inl (cf118, 2100, .inl f118)), (qf119, .inl (cf119, 2100, .inl f119)), (qf105, .inl (cf105, 8, .inl f105))]) [6, 7, 0, 1, 2, 3, 4, 5] rfl
    replace hD := hD.sub (ws' := [(h0, .inr (13, z_2)), (qf100, .inl (cf100, 48000, .inl f100)), (qf128, .inl (cf128, 31, .inl f128)), (qf102, .inl (cf102, 2048, .inl f102)), (qf104, .inl (cf104, 8, .inl f104)), (qf118, .inl (cf118, 2100, .inl f118)), (qf119, .inl (cf119, 2100, .inl f119)), (qf105, .inl (cf105, 8, .inl f105))]) [6, 7, 0, 1, 2, 3, 4, 5] (by decide) rfl
    replace hK := hK.sub (tys' := [(cf100, .int), (cf128, .int), (cf102, .int), (cf104, .int), (cf118, .int), (cf119, .int), (cf105, .int)]) [6, 0, 1, 2, 3, 4, 5] rfl
    obtain ⟨n_34, hn_34⟩ : ∃ z : Nat, z = nf := ⟨_, rfl⟩
    obtain ⟨l2_34, el2_34⟩ : ∃ z : Int32, z = (u1_0 + 1) := ⟨_, rfl⟩
    obtain ⟨l3_34, el3_34⟩ : ∃ z : Int32, z = u2_0 := ⟨_, rfl⟩
    obtain ⟨l4_34, el4_34⟩ : ∃ z : Int32, z = 0 := ⟨_, rfl⟩
    obtain ⟨g118_34, eg118_34⟩ : ∃ z : Nat → Int32, z = f118 := ⟨_, rfl⟩
    obtain ⟨g119_34, eg119_34⟩ : ∃ z : Nat → Int32, z = f119 := ⟨_, rfl⟩
    obtain ⟨x117_34, ex117_34⟩ : ∃ z : Int32, z = v117 := ⟨_, rfl⟩
    obtain ⟨x120_34, ex120_34⟩ : ∃ z : Int32, z = v120 := ⟨_, rfl⟩
    replace hsp : lp_vm_stackFits_34 nf n_34 a1 v98 v117 v120 v131 v132 f100 f128 f102 f104 f118 f119 f105 nS477 fS477 l2_34 l3_34 l4_34 g118_34 g119_34 x117_34 x120_34 = some (r0, o118, o119, w117, w120) := by rw [hn_34, el2_34, el3_34, el4_34, eg118_34, eg119_34, ex117_34, ex120_34]; exact hsp
    replace hl : lv_has ls 5 [(4, .int l4_34), (2, .int l2_34), (3, .int l3_34), (0, .ref h0)] := by rw [el2_34, el3_34, el4_34]; exact hl
    obtain ⟨z34, ez34⟩ : ∃ z : List Value, z = z_2 := ⟨_, rfl⟩
    have hfh_34_98 : z34[98]? = some (.int v98) := by rw [ez34]; exact hfk_2_98
    have hfh_34_100 : z34[100]? = some (.ref qf100) := by rw [ez34]; exact hfk_2_100
    have hfh_34_102 : z34[102]? = some (.ref qf102) := by rw [ez34]; exact hfk_2_102
    have hfh_34_104 : z34[104]? = some (.ref qf104) := by rw [ez34]; exact hfk_2_104
    have hfh_34_105 : z34[105]? = some (.ref qf105) := by rw [ez34]; exact hfk_2_105
    have hfh_34_117 : z34[117]? = some (.int x117_34) := by rw [ez34, ex117_34]; exact hfk_2_117
    have hfh_34_118 : z34[118]? = some (.ref qf118) := by rw [ez34]; exact hfk_2_118
    have hfh_34_119 : z34[119]? = some (.ref qf119) := by rw [ez34]; exact hfk_2_119
    have hfh_34_120 : z34[120]? = some (.int x120_34) := by rw [ez34, ex120_34]; exact hfk_2_120
    have hfh_34_128 : z34[128]? = some (.ref qf128) := by rw [ez34]; exact hfk_2_128
    have hfh_34_131 : z34[131]? = some (.int v131) := by rw [ez34]; exact hfk_2_131
    have hfh_34_132 : z34[132]? = some (.int v132) := by rw [ez34]; exact hfk_2_132
    have hlh_34 : z34.length = 155 := by rw [ez34]; exact hln_2
    have hrh_34 : ∀ j : Nat, j ≠ 117 → j ≠ 120 → z34[j]? = zs[j]? := by rw [ez34]; exact hrq_2
    replace hP : va_P (dC, dI) vwCl [(h0, .inr (13, z34)), (qf100, .inl (cf100, 48000, .inl f100)), (qf128, .inl (cf128, 31, .inl f128)), (qf102, .inl (cf102, 2048, .inl f102)), (qf104, .inl (cf104, 8, .inl f104)), (qf118, .inl (cf118, 2100, .inl g118_34)), (qf119, .inl (cf119, 2100, .inl g119_34)), (qf105, .inl (cf105, 8, .inl f105))] H := by rw [ez34, eg118_34, eg119_34]; exact hP
    replace hD : va_D A [(h0, .inr (13, z34)), (qf100, .inl (cf100, 48000, .inl f100)), (qf128, .inl (cf128, 31, .inl f128)), (qf102, .inl (cf102, 2048, .inl f102)), (qf104, .inl (cf104, 8, .inl f104)), (qf118, .inl (cf118, 2100, .inl g118_34)), (qf119, .inl (cf119, 2100, .inl g119_34)), (qf105, .inl (cf105, 8, .inl f105))] := by rw [ez34, eg118_34, eg119_34]; exact hD
    clear hn_34 ez34 el2_34 el3_34 el4_34 eg118_34 eg119_34 ex117_34 ex120_34
    try clear hlo
    try clear hH
    revert hsp
    revert hP
    revert hD
    revert hS
    revert hl
    revert hrh_34
    revert hlh_34
    revert hfh_34_132
    revert hfh_34_131
    revert hfh_34_128
    revert hfh_34_120
    revert hfh_34_119
    revert hfh_34_118
    revert hfh_34_117
    revert hfh_34_105
    revert hfh_34_104
    revert hfh_34_102
    revert hfh_34_100
    revert hfh_34_98
    revert x120_34
    revert x117_34
    revert g119_34
    revert g118_34
    revert l4_34
    revert l3_34
    revert l2_34
    revert z34
    revert ls
    revert locs
    revert H
    induction n_34 with
    | zero => intro H locs ls z34 l2_34 l3_34 l4_34 g118_34 g119_34 x117_34 x120_34 hfh_34_98 hfh_34_100 hfh_34_102 hfh_34_104 hfh_34_105 hfh_34_117 hfh_34_118 hfh_34_119 hfh_34_120 hfh_34_128 hfh_34_131 hfh_34_132 hlh_34 hrh_34 hl hS hD hP hsp; unfold lp_vm_stackFits_34 at hsp; cases hsp
    | succ n_34 ih_34 =>
      intro H locs ls z34 l2_34 l3_34 l4_34 g118_34 g119_34 x117_34 x120_34 hfh_34_98 hfh_34_100 hfh_34_102 hfh_34_104 hfh_34_105 hfh_34_117 hfh_34_118 hfh_34_119 hfh_34_120 hfh_34_128 hfh_34_131 hfh_34_132 hlh_34 hrh_34 hl hS hD hP hsp
      unfold lp_vm_stackFits_34 at hsp
      try dsimp only at hsp
      refine lv_iload hx hb dX13_stackFits_34 (lv_at hl 0 rfl) ?_
      refine lv_iload_n hx hb dX13_stackFits_36 rfl (lv_at hl 2 rfl) ?_
      refine lv_icmp_ge (tgt := 88) hx hb dX13_stackFits_37 (by decide) (fun c_4 => ?_) (fun c_4 => ?_)
      · rw [if_pos c_4] at hsp
        refine lv_iconst (v := 1) hx hb dX13_stackFits_88 (by decide) ?_
        have hr0 := Option.some.inj hsp
        clear hsp
        obtain ⟨hq0, hr1⟩ := Prod.mk.inj hr0
        clear hr0
        obtain ⟨hq1, hr2⟩ := Prod.mk.inj hr1
        clear hr1
        obtain ⟨hq2, hr3⟩ := Prod.mk.inj hr2
        clear hr2
        obtain ⟨hq3, hr4⟩ := Prod.mk.inj hr3
        clear hr3
        subst hq0
        subst hq1
        subst hq2
        subst hq3
        subst hr4
        have hP9 := hP.sub (ws' := [(h0, .inr (13, z34)), (qf100, .inl (cf100, 48000, .inl f100)), (qf128, .inl (cf128, 31, .inl f128)), (qf102, .inl (cf102, 2048, .inl f102)), (qf104, .inl (cf104, 8, .inl f104)), (qf118, .inl (cf118, 2100, .inl g118_34)), (qf119, .inl (cf119, 2100, .inl g119_34)), (qf105, .inl (cf105, 8, .inl f105))]) [0, 1, 2, 3, 4, 5, 6, 7] rfl
        have hD9 := hD.sub (ws' := [(h0, .inr (13, z34)), (qf100, .inl (cf100, 48000, .inl f100)), (qf128, .inl (cf128, 31, .inl f128)), (qf102, .inl (cf102, 2048, .inl f102)), (qf104, .inl (cf104, 8, .inl f104)), (qf118, .inl (cf118, 2100, .inl g118_34)), (qf119, .inl (cf119, 2100, .inl g119_34)), (qf105, .inl (cf105, 8, .inl f105))]) [0, 1, 2, 3, 4, 5, 6, 7] (by decide) rfl
        have hK9 := hK.sub (tys' := [(cf100, .int), (cf128, .int), (cf102, .int), (cf104, .int), (cf118, .int), (cf119, .int), (cf105, .int)]) [0, 1, 2, 3, 4, 5, 6] rfl
        exact W.zret hx hb hr (by decide) (fun t ht hW => ⟨⟨(1), (z34), rfl, ⟨⟨rfl, Or.inr rfl⟩, hlh_34, hrh_34, hfh_34_117, hfh_34_120⟩, by rw [ht]; exact hP9, va_K.moved hW.alike hK9, hD9⟩, hS.F ht⟩) hS.2.2 dX13_stackFits_89
      · rw [if_neg c_4] at hsp
        refine lv_aload_n hx hb dX13_stackFits_40 rfl (lv_at hl 3 rfl) ?_
        refine lv_aload_n hx hb dX13_stackFits_41 rfl (lv_at hl 3 rfl) ?_
        refine va_get (D := (dC, dI)) (ci := 13) (v := .ref qf128) (C := RX13) (T := TX13) (N := 155) hx hb hts uV_h9_X13 hown hK hP 0 rfl rfl 128 (by decide) (hts (.fieldLink RX13 273 "ClassMillModel" "stack" "[I") mw_h9_544) (fun _ h9 => h9) hfh_34_128 dX13_stackFits_42 ?_
        refine lv_iload hx hb dX13_stackFits_45 (lv_at hl 0 rfl) ?_
        obtain ⟨hi_5, hsp⟩ := ox_in hsp
        refine va_iald hx hb hK hP 2 1 rfl rfl (i := l4_34) hi_5 dX13_stackFits_47 ?_
        refine lv_aload_n hx hb dX13_stackFits_48 rfl (lv_at hl 3 rfl) ?_
        refine lv_iload_n hx hb dX13_stackFits_49 rfl (lv_at hl 1 rfl) ?_
        obtain ⟨⟨u3_0, g903_1, g903_2, u3_3, u3_4⟩, hu_3, hsp⟩ := ox_bind hsp
        try dsimp only at hsp
        have hPc := hP.sub (ws' := [(h0, .inr (13, z34)), (qf100, .inl (cf100, 48000, .inl f100)), (qf102, .inl (cf102, 2048, .inl f102)), (qf104, .inl (cf104, 8, .inl f104)), (qf118, .inl (cf118, 2100, .inl g118_34)), (qf119, .inl (cf119, 2100, .inl g119_34))]) [0, 1, 3, 4, 5, 6] rfl
        have hDc := hD.sub (ws' := [(h0, .inr (13, z34)), (qf100, .inl (cf100, 48000, .inl f100)), (qf102, .inl (cf102, 2048, .inl f102)), (qf104, .inl (cf104, 8, .inl f104)), (qf118, .inl (cf118, 2100, .inl g118_34)), (qf119, .inl (cf119, 2100, .inl g119_34))]) [0, 1, 3, 4, 5, 6] (by decide) rfl
        have hKc := hK.sub (tys' := [(cf100, .int), (cf102, .int), (cf104, .int), (cf118, .int), (cf119, .int)]) [0, 2, 3, 4, 5] rfl
        have hFc := va_free (wc := [(h0, .inr (13, z34)), (qf100, .inl (cf100, 48000, .inl f100)), (qf102, .inl (cf102, 2048, .inl f102)), (qf104, .inl (cf104, 8, .inl f104)), (qf118, .inl (cf118, 2100, .inl g118_34)), (qf119, .inl (cf119, 2100, .inl g119_34))]) hD hS hA [0, 1, 3, 4, 5, 6] rfl
        refine va_calli (va_runV (As := [.int l2_34]) (rest := [.int (f128 (l4_34 : Int32).toNatClampNeg), .ref h0]) ⟨hx, hb, hml, hown, hts⟩ (vm_framed l dC dI H.size h0 z34 l2_34 v98 qf100 qf102 qf104 x117_34 qf118 qf119 x120_34 v132 cf100 f100 cf102 f102 cf104 f104 cf118 g118_34 cf119 g119_34 nS477 fS477 hS477 qS477 tS477 nf u3_0 g903_1 g903_2 u3_3 u3_4 hlh_34 hfh_34_98 hfh_34_100 hfh_34_102 hfh_34_104 hfh_34_117 hfh_34_118 hfh_34_119 hfh_34_120 hfh_34_132 hu_3) (cwV 1 hts gv_h9_109 rfl rfl rfl (by decide +kernel) ⟨Nat.le_of_ble_eq_true rfl, Nat.le_of_ble_eq_true rfl⟩) ⟨fun a U g mk q => by obtain ⟨q0, q1, qP, qK, qD, qhZWS477, qhZRS477⟩ := q; exact ⟨q0, q1, qP, va_K.moved (u := U) (U := U.calling g mk a) (Vm.Alike.refl U.vm) qK, qD, pz_W.moved (u := U) (U := U.calling g mk a) (Vm.Alike.refl U.vm) qhZWS477, vk_R.same rfl qhZRS477⟩, va_recv hKc hPc (ci := 13) (q0 := 0) rfl rfl, fun U hU hW => ⟨rfl, by rw [hU], by rw [hU]; exact hPc, va_K.moved hW.alike hKc, hDc.weaken (fun _ _ _ _ => trivial), by rw [hU]; exact ((pz_W.moved hW.alike hZWS477).kept hS.2.1).narrow hFc, vk_R.warm hW hZRS477⟩⟩ rfl rfl hl.1 rfl (lv_room (Nat.le_of_ble_eq_true rfl)) dX13_stackFits_50 ⟨Nat.le_of_ble_eq_true rfl, Nat.le_of_ble_eq_true rfl⟩) hS (fun q _ h => hFc q h) hFc ?_
        clear hS
        intro r_6 u t H1 locs ht hvm hw hB hz1 hk1 hS
        obtain ⟨z_3, rfl⟩ : ∃ z, z = u := ⟨_, rfl⟩
        obtain ⟨hP1, hK1, hD1⟩ := hB
        rw [ht] at hP1
        have hK1 := va_K.moved hvm.symm hK1
        try dsimp only at hw
        have hPD := va_join (wr := [(qf128, .inl (cf128, 31, .inl f128)), (qf105, .inl (cf105, 8, .inl f105))]) (w1 := [(h0, .inr (13, z_3)), (qf100, .inl (cf100, 48000, .inl f100)), (qf102, .inl (cf102, 2048, .inl f102)), (qf104, .inl (cf104, 8, .inl f104)), (qf118, .inl (cf118, 2100, .inl g903_1)), (qf119, .inl (cf119, 2100, .inl g903_2))]) hP hD [0, 1, 3, 4, 5, 6] [2, 7] rfl rfl (by decide) (by decide) hk1 hFc hP1 hD1
        clear hP hD
        obtain ⟨hP, hD⟩ := hPD
        replace hK := (hK.sub (tys' := [(cf128, .int), (cf105, .int)]) [1, 6] rfl).app hK1
        clear hPc hDc hKc hFc hP1 hK1 hD1 hz1 hk1 ht hvm
        generalize H1 = H at hP hS ⊢
        replace hP : va_P (dC, dI) vwCl [(qf128, .inl (cf128, 31, .inl f128)), (qf105, .inl (cf105, 8, .inl f105)), (h0, .inr (13, z_3)), (qf100, .inl (cf100, 48000, .inl f100)), (qf102, .inl (cf102, 2048, .inl f102)), (qf104, .inl (cf104, 8, .inl f104)), (qf118, .inl (cf118, 2100, .inl g903_1)), (qf119, .inl (cf119, 2100, .inl g903_2))] H := hP
        replace hD : va_D A [(qf128, .inl (cf128, 31, .inl f128)), (qf105, .inl (cf105, 8, .inl f105)), (h0, .inr (13, z_3)), (qf100, .inl (cf100, 48000, .inl f100)), (qf102, .inl (cf102, 2048, .inl f102)), (qf104, .inl (cf104, 8, .inl f104)), (qf118, .inl (cf118, 2100, .inl g903_1)), (qf119, .inl (cf119, 2100, .inl g903_2))] := hD
        replace hK : va_K (dC, dI) vwCl [(cf128, .int), (cf105, .int), (cf100, .int), (cf102, .int), (cf104, .int), (cf118, .int), (cf119, .int)] s := hK
        obtain ⟨hwa_3, hln_3, hre_3, hch_3_117, hch_3_120⟩ := hw
        have hfk_3_98 : z_3[98]? = some (.int v98) := (hre_3 98 (by decide) (by decide)).trans (hfh_34_98)
        have hfk_3_100 : z_3[100]? = some (.ref qf100) := (hre_3 100 (by decide) (by decide)).trans (hfh_34_100)
        have hfk_3_102 : z_3[102]? = some (.ref qf102) := (hre_3 102 (by decide) (by decide)).trans (hfh_34_102)
        have hfk_3_104 : z_3[104]? = some (.ref qf104) := (hre_3 104 (by decide) (by decide)).trans (hfh_34_104)
        have hfk_3_105 : z_3[105]? = some (.ref qf105) := (hre_3 105 (by decide) (by decide)).trans (hfh_34_105)
        have hfk_3_118 : z_3[118]? = some (.ref qf118) := (hre_3 118 (by decide) (by decide)).trans (hfh_34_118)
        have hfk_3_119 : z_3[119]? = some (.ref qf119) := (hre_3 119 (by decide) (by decide)).trans (hfh_34_119)
        have hfk_3_128 : z_3[128]? = some (.ref qf128) := (hre_3 128 (by decide) (by decide)).trans (hfh_34_128)
        have hfk_3_131 : z_3[131]? = some (.int v131) := (hre_3 131 (by decide) (by decide)).trans (hfh_34_131)
        have hfk_3_132 : z_3[132]? = some (.int v132) := (hre_3 132 (by decide) (by decide)).trans (hfh_34_132)
        have hrq_3 : ∀ j : Nat, j ≠ 117 → j ≠ 120 → z_3[j]? = zs[j]? := fun j g117 g120 => (hre_3 j g117 g120).trans (hrh_34 j g117 g120)
        obtain rfl := hwa_3
        obtain ⟨u4_0, hu_4, hsp⟩ := ox_bind hsp
        try dsimp only at hsp
        have hPc := hP.sub (ws' := [(h0, .inr (13, z_3)), (qf105, .inl (cf105, 8, .inl f105)), (qf102, .inl (cf102, 2048, .inl f102)), (qf100, .inl (cf100, 48000, .inl f100)), (qf104, .inl (cf104, 8, .inl f104))]) [2, 1, 4, 3, 5] rfl
        have hDc := hD.sub (ws' := [(h0, .inr (13, z_3)), (qf105, .inl (cf105, 8, .inl f105)), (qf102, .inl (cf102, 2048, .inl f102)), (qf100, .inl (cf100, 48000, .inl f100)), (qf104, .inl (cf104, 8, .inl f104))]) [2, 1, 4, 3, 5] (by decide) rfl
        have hKc := hK.sub (tys' := [(cf105, .int), (cf102, .int), (cf100, .int), (cf104, .int)]) [1, 3, 2, 4] rfl
        have hFc := va_free (wc := [(h0, .inr (13, z_3)), (qf105, .inl (cf105, 8, .inl f105)), (qf102, .inl (cf102, 2048, .inl f102)), (qf100, .inl (cf100, 48000, .inl f100)), (qf104, .inl (cf104, 8, .inl f104))]) hD hS hA [2, 1, 4, 3, 5] rfl
        refine va_calli (va_runV (As := [.int (f128 (l4_34 : Int32).toNatClampNeg), .int u3_0]) (rest := []) ⟨hx, hb, hml, hown, hts⟩ (vm_goes l dC dI H.size h0 z_3 ((f128 (l4_34 : Int32).toNatClampNeg)) u3_0 v98 qf100 qf102 qf104 qf105 cf105 f105 cf102 f102 cf100 f100 cf104 f104 nS477 fS477 hS477 qS477 tS477 nf u4_0 hln_3 hfk_3_98 hfk_3_100 hfk_3_102 hfk_3_104 hfk_3_105 hu_4) (cwV 2 hts gv_h9_110 rfl rfl rfl (by decide +kernel) ⟨Nat.le_of_ble_eq_true rfl, Nat.le_of_ble_eq_true rfl⟩) ⟨fun a U g mk q => by obtain ⟨q0, q1, qP, qK, qD, qhZWS477, qhZRS477⟩ := q; exact ⟨q0, q1, qP, va_K.moved (u := U) (U := U.calling g mk a) (Vm.Alike.refl U.vm) qK, qD, pz_W.moved (u := U) (U := U.calling g mk a) (Vm.Alike.refl U.vm) qhZWS477, vk_R.same rfl qhZRS477⟩, va_recv hKc hPc (ci := 13) (q0 := 0) rfl rfl, fun U hU hW => ⟨rfl, by rw [hU], by rw [hU]; exact hPc, va_K.moved hW.alike hKc, hDc.weaken (fun _ _ _ _ => trivial), by rw [hU]; exact ((pz_W.moved hW.alike hZWS477).kept hS.2.1).narrow hFc, vk_R.warm hW hZRS477⟩⟩ rfl rfl hl.1 rfl (lv_room (Nat.le_of_ble_eq_true rfl)) dX13_stackFits_53 ⟨Nat.le_of_ble_eq_true rfl, Nat.le_of_ble_eq_true rfl⟩) hS (fun q _ h => hFc q h) hFc ?_
        clear hS
        intro r_7 u t H1 locs ht hvm hw hB hz1 hk1 hS
        obtain ⟨z_4, rfl⟩ : ∃ z, z = u := ⟨_, rfl⟩
        obtain ⟨hP1, hK1, hD1⟩ := hB
        rw [ht] at hP1
        have hK1 := va_K.moved hvm.symm hK1
        try dsimp only at hw
        have hPD := va_join (wr := [(qf128, .inl (cf128, 31, .inl f128)), (qf118, .inl (cf118, 2100, .inl g903_1)), (qf119, .inl (cf119, 2100, .inl g903_2))]) (w1 := [(h0, .inr (13, z_4)), (qf105, .inl (cf105, 8, .inl f105)), (qf102, .inl (cf102, 2048, .inl f102)), (qf100, .inl (cf100, 48000, .inl f100)), (qf104, .inl (cf104, 8, .inl f104))]) hP hD [2, 1, 4, 3, 5] [0, 6, 7] rfl rfl (by decide) (by decide) hk1 hFc hP1 hD1
        clear hP hD
        obtain ⟨hP, hD⟩ := hPD
        replace hK := (hK.sub (tys' := [(cf128, .int), (cf118, .int), (cf119, .int)]) [0, 5, 6] rfl).app hK1
        clear hPc hDc hKc hFc hP1 hK1 hD1 hz1 hk1 ht hvm
        generalize H1 = H at hP hS ⊢
        replace hP : va_P (dC, dI) vwCl [(qf128, .inl (cf128, 31, .inl f128)), (qf118, .inl (cf118, 2100, .inl g903_1)), (qf119, .inl (cf119, 2100, .inl g903_2)), (h0, .inr (13, z_4)), (qf105, .inl (cf105, 8, .inl f105)), (qf102, .inl (cf102, 2048, .inl f102)), (qf100, .inl (cf100, 48000, .inl f100)), (qf104, .inl (cf104, 8, .inl f104))] H := hP
        replace hD : va_D A [(qf128, .inl (cf128, 31, .inl f128)), (qf118, .inl (cf118, 2100, .inl g903_1)), (qf119, .inl (cf119, 2100, .inl g903_2)), (h0, .inr (13, z_4)), (qf105, .inl (cf105, 8, .inl f105)), (qf102, .inl (cf102, 2048, .inl f102)), (qf100, .inl (cf100, 48000, .inl f100)), (qf104, .inl (cf104, 8, .inl f104))] := hD
        replace hK : va_K (dC, dI) vwCl [(cf128, .int), (cf118, .int), (cf119, .int), (cf105, .int), (cf102, .int), (cf100, .int), (cf104, .int)] s := hK
        obtain ⟨hwa_4, hln_4, hre_4⟩ := hw
        have hfk_4_98 : z_4[98]? = some (.int v98) := (hre_4 98 ).trans (hfk_3_98)
        have hfk_4_100 : z_4[100]? = some (.ref qf100) := (hre_4 100 ).trans (hfk_3_100)
        have hfk_4_102 : z_4[102]? = some (.ref qf102) := (hre_4 102 ).trans (hfk_3_102)
        have hfk_4_104 : z_4[104]? = some (.ref qf104) := (hre_4 104 ).trans (hfk_3_104)
        have hfk_4_105 : z_4[105]? = some (.ref qf105) := (hre_4 105 ).trans (hfk_3_105)
        have hfk_4_117 : z_4[117]? = some (.int u3_3) := (hre_4 117 ).trans (hch_3_117)
        have hfk_4_118 : z_4[118]? = some (.ref qf118) := (hre_4 118 ).trans (hfk_3_118)
        have hfk_4_119 : z_4[119]? = some (.ref qf119) := (hre_4 119 ).trans (hfk_3_119)
        have hfk_4_120 : z_4[120]? = some (.int u3_4) := (hre_4 120 ).trans (hch_3_120)
        have hfk_4_128 : z_4[128]? = some (.ref qf128) := (hre_4 128 ).trans (hfk_3_128)
        have hfk_4_131 : z_4[131]? = some (.int v131) := (hre_4 131 ).trans (hfk_3_131)
        have hfk_4_132 : z_4[132]? = some (.int v132) := (hre_4 132 ).trans (hfk_3_132)
        have hrq_4 : ∀ j : Nat, j ≠ 117 → j ≠ 120 → z_4[j]? = zs[j]? := fun j g117 g120 => (hre_4 j ).trans (hrq_3 j g117 g120)
        obtain ⟨rfl, hz_4⟩ := hwa_4
        rcases hz_4 with rfl | rfl
        · rw [if_pos rfl] at hsp
          refine lv_if_ne (tgt := 61) hx hb dX13_stackFits_56 (by decide) (fun c_8 => (show False by revert c_8; decide).elim) (fun c_8 => ?_)
          refine lv_iconst (v := 0) hx hb dX13_stackFits_59 (by decide) ?_
          have hr0 := Option.some.inj hsp
          clear hsp
          obtain ⟨hq0, hr1⟩ := Prod.mk.inj hr0
          clear hr0
          obtain ⟨hq1, hr2⟩ := Prod.mk.inj hr1
          clear hr1
          obtain ⟨hq2, hr3⟩ := Prod.mk.inj hr2
          clear hr2
          obtain ⟨hq3, hr4⟩ := Prod.mk.inj hr3
          clear hr3
          subst hq0
          subst hq1
          subst hq2
          subst hq3
          subst hr4
          have hP9 := hP.sub (ws' := [(h0, .inr (13, z_4)), (qf100, .inl (cf100, 48000, .inl f100)), (qf128, .inl (cf128, 31, .inl f128)), (qf102, .inl (cf102, 2048, .inl f102)), (qf104, .inl (cf104, 8, .inl f104)), (qf118, .inl (cf118, 2100, .inl g903_1)), (qf119, .inl (cf119, 2100, .inl g903_2)), (qf105, .inl (cf105, 8, .inl f105))]) [3, 6, 0, 5, 7, 1, 2, 4] rfl
          have hD9 := hD.sub (ws' := [(h0, .inr (13, z_4)), (qf100, .inl (cf100, 48000, .inl f100)), (qf128, .inl (cf128, 31, .inl f128)), (qf102, .inl (cf102, 2048, .inl f102)), (qf104, .inl (cf104, 8, .inl f104)), (qf118, .inl (cf118, 2100, .inl g903_1)), (qf119, .inl (cf119, 2100, .inl g903_2)), (qf105, .inl (cf105, 8, .inl f105))]) [3, 6, 0, 5, 7, 1, 2, 4] (by decide) rfl
          have hK9 := hK.sub (tys' := [(cf100, .int), (cf128, .int), (cf102, .int), (cf104, .int), (cf118, .int), (cf119, .int), (cf105, .int)]) [5, 0, 4, 6, 1, 2, 3] rfl
          exact W.zret hx hb hr (by decide) (fun t ht hW => ⟨⟨(0), (z_4), rfl, ⟨⟨rfl, Or.inl rfl⟩, hln_4, hrq_4, hfk_4_117, hfk_4_120⟩, by rw [ht]; exact hP9, va_K.moved hW.alike hK9, hD9⟩, hS.F ht⟩) hS.2.2 dX13_stackFits_60
        · rw [if_neg (by decide)] at hsp
          refine lv_if_ne (tgt := 61) hx hb dX13_stackFits_56 (by decide) (fun c_9 => ?_) (fun c_9 => (show False by revert c_9; decide).elim)
          refine lv_iload_n hx hb dX13_stackFits_61 rfl (lv_at hl 1 rfl) ?_
          refine lv_aload_n hx hb dX13_stackFits_62 rfl (lv_at hl 3 rfl) ?_
          refine lv_aload_n hx hb dX13_stackFits_63 rfl (lv_at hl 3 rfl) ?_
          refine va_get (D := (dC, dI)) (ci := 13) (v := .int v132) (C := RX13) (T := TX13) (N := 155) hx hb hts uV_h9_X13 hown hK hP 3 rfl rfl 132 (by decide) (hts (.fieldLink RX13 932 "ClassMillModel" "inClass" "I") mw_h9_533) (fun _ h9 => h9) hfk_4_132 dX13_stackFits_64 ?_
          refine lv_iload_n hx hb dX13_stackFits_67 rfl (lv_at hl 1 rfl) ?_
          obtain ⟨u5_0, hu_5, hsp⟩ := ox_bind hsp
          try dsimp only at hsp
          have hPc := hP.sub (ws' := [(h0, .inr (13, z_4)), (qf100, .inl (cf100, 48000, .inl f100))]) [3, 6] rfl
          have hDc := hD.sub (ws' := [(h0, .inr (13, z_4)), (qf100, .inl (cf100, 48000, .inl f100))]) [3, 6] (by decide) rfl
          have hKc := hK.sub (tys' := [(cf100, .int)]) [5] rfl
          have hFc := va_free (wc := [(h0, .inr (13, z_4)), (qf100, .inl (cf100, 48000, .inl f100))]) hD hS hA [3, 6] rfl
          refine va_calli (va_runV (As := [.int v132, .int l2_34]) (rest := [.int l2_34]) ⟨hx, hb, hml, hown, hts⟩ (tm_byteAt l dC dI H.size h0 z_4 v132 l2_34 qf100 cf100 f100 nf u5_0 hln_4 hfk_4_100 hu_5) (cwV 2 hts gv_h9_58 rfl rfl rfl (by decide +kernel) ⟨Nat.le_of_ble_eq_true rfl, Nat.le_of_ble_eq_true rfl⟩) ⟨fun a U g mk q => by obtain ⟨q0, q1, qP, qK, qD⟩ := q; exact ⟨q0, q1, qP, va_K.moved (u := U) (U := U.calling g mk a) (Vm.Alike.refl U.vm) qK, qD⟩, va_recv hKc hPc (ci := 13) (q0 := 0) rfl rfl, fun U hU hW => ⟨rfl, by rw [hU], by rw [hU]; exact hPc, va_K.moved hW.alike hKc, hDc.weaken (fun _ _ _ _ => trivial)⟩⟩ rfl rfl hl.1 rfl (lv_room (Nat.le_of_ble_eq_true rfl)) dX13_stackFits_68 ⟨Nat.le_of_ble_eq_true rfl, Nat.le_of_ble_eq_true rfl⟩) hS (fun q _ h => hFc q h) hFc ?_
          clear hS
          intro r_10 u t H1 locs ht hvm hw hB hz1 hk1 hS
          obtain ⟨z_5, rfl⟩ : ∃ z, z = u := ⟨_, rfl⟩
          obtain ⟨hP1, hK1, hD1⟩ := hB
          rw [ht] at hP1
          have hK1 := va_K.moved hvm.symm hK1
          try dsimp only at hw
          have hPD := va_join (wr := [(qf128, .inl (cf128, 31, .inl f128)), (qf118, .inl (cf118, 2100, .inl g903_1)), (qf119, .inl (cf119, 2100, .inl g903_2)), (qf105, .inl (cf105, 8, .inl f105)), (qf102, .inl (cf102, 2048, .inl f102)), (qf104, .inl (cf104, 8, .inl f104))]) (w1 := [(h0, .inr (13, z_5)), (qf100, .inl (cf100, 48000, .inl f100))]) hP hD [3, 6] [0, 1, 2, 4, 5, 7] rfl rfl (by decide) (by decide) hk1 hFc hP1 hD1
          clear hP hD
          obtain ⟨hP, hD⟩ := hPD
          replace hK := (hK.sub (tys' := [(cf128, .int), (cf118, .int), (cf119, .int), (cf105, .int), (cf102, .int), (cf104, .int)]) [0, 1, 2, 3, 4, 6] rfl).app hK1
          clear hPc hDc hKc hFc hP1 hK1 hD1 hz1 hk1 ht hvm
          generalize H1 = H at hP hS ⊢
          replace hP : va_P (dC, dI) vwCl [(qf128, .inl (cf128, 31, .inl f128)), (qf118, .inl (cf118, 2100, .inl g903_1)), (qf119, .inl (cf119, 2100, .inl g903_2)), (qf105, .inl (cf105, 8, .inl f105)), (qf102, .inl (cf102, 2048, .inl f102)), (qf104, .inl (cf104, 8, .inl f104)), (h0, .inr (13, z_5)), (qf100, .inl (cf100, 48000, .inl f100))] H := hP
          replace hD : va_D A [(qf128, .inl (cf128, 31, .inl f128)), (qf118, .inl (cf118, 2100, .inl g903_1)), (qf119, .inl (cf119, 2100, .inl g903_2)), (qf105, .inl (cf105, 8, .inl f105)), (qf102, .inl (cf102, 2048, .inl f102)), (qf104, .inl (cf104, 8, .inl f104)), (h0, .inr (13, z_5)), (qf100, .inl (cf100, 48000, .inl f100))] := hD
          replace hK : va_K (dC, dI) vwCl [(cf128, .int), (cf118, .int), (cf119, .int), (cf105, .int), (cf102, .int), (cf104, .int), (cf100, .int)] s := hK
          obtain ⟨hwa_5, hln_5, hre_5⟩ := hw
          have hfk_5_98 : z_5[98]? = some (.int v98) := (hre_5 98 ).trans (hfk_4_98)
          have hfk_5_100 : z_5[100]? = some (.ref qf100) := (hre_5 100 ).trans (hfk_4_100)
          have hfk_5_102 : z_5[102]? = some (.ref qf102) := (hre_5 102 ).trans (hfk_4_102)
          have hfk_5_104 : z_5[104]? = some (.ref qf104) := (hre_5 104 ).trans (hfk_4_104)
          have hfk_5_105 : z_5[105]? = some (.ref qf105) := (hre_5 105 ).trans (hfk_4_105)
          have hfk_5_117 : z_5[117]? = some (.int u3_3) := (hre_5 117 ).trans (hfk_4_117)
          have hfk_5_118 : z_5[118]? = some (.ref qf118) := (hre_5 118 ).trans (hfk_4_118)
          have hfk_5_119 : z_5[119]? = some (.ref qf119) := (hre_5 119 ).trans (hfk_4_119)
          have hfk_5_120 : z_5[120]? = some (.int u3_4) := (hre_5 120 ).trans (hfk_4_120)
          have hfk_5_128 : z_5[128]? = some (.ref qf128) := (hre_5 128 ).trans (hfk_4_128)
          have hfk_5_131 : z_5[131]? = some (.int v131) := (hre_5 131 ).trans (hfk_4_131)
          have hfk_5_132 : z_5[132]? = some (.int v132) := (hre_5 132 ).trans (hfk_4_132)
          have hrq_5 : ∀ j : Nat, j ≠ 117 → j ≠ 120 → z_5[j]? = zs[j]? := fun j g117 g120 => (hre_5 j ).trans (hrq_4 j g117 g120)
          obtain rfl := hwa_5
          refine lv_iconst (v := 3) hx hb dX13_stackFits_71 (by decide) ?_
          refine lv_icmp_ne (tgt := 79) hx hb dX13_stackFits_72 (by decide) (fun c_11 => ?_) (fun c_11 => ?_)
          · rw [if_neg c_11] at hsp
            refine lv_iconst (v := 1) hx hb dX13_stackFits_79 (by decide) ?_
            refine lv_iadd hx hb dX13_stackFits_80 ?_
            refine lv_istore_n (lv' := [(2, .int (l2_34 + 1)), (4, .int l4_34), (3, .int l3_34), (0, .ref h0)]) hx hb dX13_stackFits_81 rfl hl (by decide) rfl (fun ls hl => ?_)
            refine lv_iinc (v := (l4_34 + 1)) (lv' := [(4, .int (l4_34 + 1)), (2, .int (l2_34 + 1)), (3, .int l3_34), (0, .ref h0)]) hx hb dX13_stackFits_82 hl (k := 1) rfl rfl (by decide) rfl (fun ls hl => ?_)
            refine lv_goto (tgt := 34) hx hb dX13_stackFits_85 (by decide) ?_
            exact ih_34 H locs ls z_5 (l2_34 + 1) l3_34 (l4_34 + 1) g903_1 g903_2 u3_3 u3_4 (hfk_5_98) (hfk_5_100) (hfk_5_102) (hfk_5_104) (hfk_5_105) (hfk_5_117) (hfk_5_118) (hfk_5_119) (hfk_5_120) (hfk_5_128) (hfk_5_131) (hfk_5_132) hln_5 hrq_5 (lv_sub hl [0, 1, 2, 3] rfl) hS (hD.sub (ws' := [(h0, .inr (13, z_5)), (qf100, .inl (cf100, 48000, .inl f100)), (qf128, .inl (cf128, 31, .inl f128)), (qf102, .inl (cf102, 2048, .inl f102)), (qf104, .inl (cf104, 8, .inl f104)), (qf118, .inl (cf118, 2100, .inl g903_1)), (qf119, .inl (cf119, 2100, .inl g903_2)), (qf105, .inl (cf105, 8, .inl f105))]) [6, 7, 0, 4, 5, 1, 2, 3] (by decide) rfl) (hP.sub (ws' := [(h0, .inr (13, z_5)), (qf100, .inl (cf100, 48000, .inl f100)), (qf128, .inl (cf128, 31, .inl f128)), (qf102, .inl (cf102, 2048, .inl f102)), (qf104, .inl (cf104, 8, .inl f104)), (qf118, .inl (cf118, 2100, .inl g903_1)), (qf119, .inl (cf119, 2100, .inl g903_2)), (qf105, .inl (cf105, 8, .inl f105))]) [6, 7, 0, 4, 5, 1, 2, 3] rfl) hsp
          · rw [if_pos c_11] at hsp
            refine lv_iconst (v := 2) hx hb dX13_stackFits_75 (by decide) ?_
            refine lv_goto (tgt := 80) hx hb dX13_stackFits_76 (by decide) ?_
            refine lv_iadd hx hb dX13_stackFits_80 ?_
            refine lv_istore_n (lv' := [(2, .int (l2_34 + 2)), (4, .int l4_34), (3, .int l3_34), (0, .ref h0)]) hx hb dX13_stackFits_81 rfl hl (by decide) rfl (fun ls hl => ?_)
            refine lv_iinc (v := (l4_34 + 1)) (lv' := [(4, .int (l4_34 + 1)), (2, .int (l2_34 + 2)), (3, .int l3_34), (0, .ref h0)]) hx hb dX13_stackFits_82 hl (k := 1) rfl rfl (by decide) rfl (fun ls hl => ?_)
            refine lv_goto (tgt := 34) hx hb dX13_stackFits_85 (by decide) ?_
            exact ih_34 H locs ls z_5 (l2_34 + 2) l3_34 (l4_34 + 1) g903_1 g903_2 u3_3 u3_4 (hfk_5_98) (hfk_5_100) (hfk_5_102) (hfk_5_104) (hfk_5_105) (hfk_5_117) (hfk_5_118) (hfk_5_119) (hfk_5_120) (hfk_5_128) (hfk_5_131) (hfk_5_132) hln_5 hrq_5 (lv_sub hl [0, 1, 2, 3] rfl) hS (hD.sub (ws' := [(h0, .inr (13, z_5)), (qf100, .inl (cf100, 48000, .inl f100)), (qf128, .inl (cf128, 31, .inl f128)), (qf102, .inl (cf102, 2048, .inl f102)), (qf104, .inl (cf104, 8, .inl f104)), (qf118, .inl (cf118, 2100, .inl g903_1)), (qf119, .inl (cf119, 2100, .inl g903_2)), (qf105, .inl (cf105, 8, .inl f105))]) [6, 7, 0, 4, 5, 1, 2, 3] (by decide) rfl) (hP.sub (ws' := [(h0, .inr (13, z_5)), (qf100, .inl (cf100, 48000, .inl f100)), (qf128, .inl (cf128, 31, .inl f128)), (qf102, .inl (cf102, 2048, .inl f102)), (qf104, .inl (cf104, 8, .inl f104)), (qf118, .inl (cf118, 2100, .inl g903_1)), (qf119, .inl (cf119, 2100, .inl g903_2)), (qf105, .inl (cf105, 8, .inl f105))]) [6, 7, 0, 4, 5, 1, 2, 3] rfl) hsp
  · rw [if_neg c_3] at hsp
    refine lv_iconst (v := 0) hx hb dX13_stackFits_29 (by decide) ?_
    have hr0 := Option.some.inj hsp
    clear hsp
    obtain ⟨hq0, hr1⟩ := Prod.mk.inj hr0
    clear hr0
    obtain ⟨hq1, hr2⟩ := Prod.mk.inj hr1
    clear hr1
    obtain ⟨hq2, hr3⟩ := Prod.mk.inj hr2
    clear hr2
    obtain ⟨hq3, hr4⟩ := Prod.mk.inj hr3
    clear hr3
    subst hq0
    subst hq1
    subst hq2
    subst hq3
    subst hr4
    have hP9 := hP.sub (ws' := [(h0, .inr (13, z_2)), (qf100, .inl (cf100, 48000, .inl f100)), (qf128, .inl (cf128, 31, .inl f128)), (qf102, .inl (cf102, 2048, .inl f102)), (qf104, .inl (cf104, 8, .inl f104)), (qf118, .inl (cf118, 2100, .inl f118)), (qf119, .inl (cf119, 2100, .inl f119)), (qf105, .inl (cf105, 8, .inl f105))]) [6, 7, 0, 1, 2, 3, 4, 5] rfl
    have hD9 := hD.sub (ws' := [(h0, .inr (13, z_2)), (qf100, .inl (cf100, 48000, .inl f100)), (qf128, .inl (cf128, 31, .inl f128)), (qf102, .inl (cf102, 2048, .inl f102)), (qf104, .inl (cf104, 8, .inl f104)), (qf118, .inl (cf118, 2100, .inl f118)), (qf119, .inl (cf119, 2100, .inl f119)), (qf105, .inl (cf105, 8, .inl f105))]) [6, 7, 0, 1, 2, 3, 4, 5] (by decide) rfl
    have hK9 := hK.sub (tys' := [(cf100, .int), (cf128, .int), (cf102, .int), (cf104, .int), (cf118, .int), (cf119, .int), (cf105, .int)]) [6, 0, 1, 2, 3, 4, 5] rfl
    exact W.zret hx hb hr (by decide) (fun t ht hW => ⟨⟨(0), (z_2), rfl, ⟨⟨rfl, Or.inl rfl⟩, hln_2, hrq_2, hfk_2_117, hfk_2_120⟩, by rw [ht]; exact hP9, va_K.moved hW.alike hK9, hD9⟩, hS.F ht⟩) hS.2.2 dX13_stackFits_30
def lp_vm_becomes_114 (nf n : Nat) (a1 : Int32) (v98 : Int32) (v117 : Int32) (v120 : Int32) (v129 : Int32) (v131 : Int32) (v132 : Int32) (f100 : Nat → Int32) (f102 : Nat → Int32) (f104 : Nat → Int32) (f118 : Nat → Int32) (f119 : Nat → Int32) (f128 : Nat → Int32) (f127 : Nat → Int32) (nS477 : Nat) (fS477 : Nat → Int32)  (l2_114 : Int32) (l3_114 : Int32) (l4_114 : Int32) (g118_114 : Nat → Int32) (g119_114 : Nat → Int32) (g127_114 : Nat → Int32) (g128_114 : Nat → Int32) (x117_114 : Int32) (x120_114 : Int32) (x131_114 : Int32) : Option ((Nat → Int32) × (Nat → Int32) × (Nat → Int32) × (Nat → Int32) × Int32 × Int32 × Int32) := match n with
  | 0 => none
  | n + 1 => (if l3_114 ≤ l4_114 then (some (g118_114, g119_114, g127_114, g128_114, x117_114, x120_114, x131_114)) else ((sp_vm_framed nf l2_114 v98 x117_114 x120_114 v132 f100 f102 f104 g118_114 g119_114 nS477 fS477).bind (fun p1 => (if l4_114 < 0 then none else if 31 ≤ (l4_114 : Int32).toNatClampNeg then none else ((sp_tm_byteAt nf v132 l2_114 f100).bind (fun p2 => (if p2 = 3 then (lp_vm_becomes_114 nf n a1 v98 v117 v120 v129 v131 v132 f100 f102 f104 f118 f119 f128 f127 nS477 fS477 (l2_114 + 2) l3_114 (l4_114 + 1) p1.2.1 p1.2.2.1 g127_114 (upd g128_114 (l4_114 : Int32).toNatClampNeg p1.1) p1.2.2.2.1 p1.2.2.2.2 x131_114) else (lp_vm_becomes_114 nf n a1 v98 v117 v120 v129 v131 v132 f100 f102 f104 f118 f119 f128 f127 nS477 fS477 (l2_114 + 1) l3_114 (l4_114 + 1) p1.2.1 p1.2.2.1 g127_114 (upd g128_114 (l4_114 : Int32).toNatClampNeg p1.1) p1.2.2.2.1 p1.2.2.2.2 x131_114))))))))
def lp_vm_becomes_20 (nf n : Nat) (a1 : Int32) (v98 : Int32) (v117 : Int32) (v120 : Int32) (v129 : Int32) (v131 : Int32) (v132 : Int32) (f100 : Nat → Int32) (f102 : Nat → Int32) (f104 : Nat → Int32) (f118 : Nat → Int32) (f119 : Nat → Int32) (f128 : Nat → Int32) (f127 : Nat → Int32) (nS477 : Nat) (fS477 : Nat → Int32)  (l1_20 : Int32) (l2_20 : Int32) (l3_20 : Int32) (l4_20 : Int32) (g118_20 : Nat → Int32) (g119_20 : Nat → Int32) (g127_20 : Nat → Int32) (g128_20 : Nat → Int32) (x117_20 : Int32) (x120_20 : Int32) (x131_20 : Int32) : Option ((Nat → Int32) × (Nat → Int32) × (Nat → Int32) × (Nat → Int32) × Int32 × Int32 × Int32) := match n with
  | 0 => none
  | n + 1 => (if v129 ≤ l4_20 then ((sp_tn_typesEnd nf (l1_20 + 2) v132 f100).bind (fun p1 => ((sp_tm_byteAt nf v132 p1 f100).bind (fun p2 => (lp_vm_becomes_114 nf nf a1 v98 v117 v120 v129 v131 v132 f100 f102 f104 f118 f119 f128 f127 nS477 fS477  (p1 + 1) p2 0 g118_20 g119_20 g127_20 g128_20 x117_20 x120_20 p2))))) else (if l4_20 < 0 then none else if 30 ≤ (l4_20 : Int32).toNatClampNeg then none else (if l4_20 < l3_20 then ((sp_vm_framed nf l2_20 v98 x117_20 x120_20 v132 f100 f102 f104 g118_20 g119_20 nS477 fS477).bind (fun p3 => (if l4_20 < 0 then none else if 30 ≤ (l4_20 : Int32).toNatClampNeg then none else ((sp_tm_byteAt nf v132 l2_20 f100).bind (fun p4 => (if p4 = 3 then (lp_vm_becomes_20 nf n a1 v98 v117 v120 v129 v131 v132 f100 f102 f104 f118 f119 f128 f127 nS477 fS477 l1_20 (l2_20 + 2) l3_20 (l4_20 + 1) p3.2.1 p3.2.2.1 (upd (upd g127_20 (l4_20 : Int32).toNatClampNeg 0) (l4_20 : Int32).toNatClampNeg p3.1) g128_20 p3.2.2.2.1 p3.2.2.2.2 x131_20) else (lp_vm_becomes_20 nf n a1 v98 v117 v120 v129 v131 v132 f100 f102 f104 f118 f119 f128 f127 nS477 fS477 l1_20 (l2_20 + 1) l3_20 (l4_20 + 1) p3.2.1 p3.2.2.1 (upd (upd g127_20 (l4_20 : Int32).toNatClampNeg 0) (l4_20 : Int32).toNatClampNeg p3.1) g128_20 p3.2.2.2.1 p3.2.2.2.2 x131_20))))))) else (lp_vm_becomes_20 nf n a1 v98 v117 v120 v129 v131 v132 f100 f102 f104 f118 f119 f128 f127 nS477 fS477 l1_20 l2_20 l3_20 (l4_20 + 1) g118_20 g119_20 (upd g127_20 (l4_20 : Int32).toNatClampNeg 0) g128_20 x117_20 x120_20 x131_20))))
def sp_vm_becomes (nf : Nat) (a1 : Int32) (v98 : Int32) (v117 : Int32) (v120 : Int32) (v129 : Int32) (v131 : Int32) (v132 : Int32) (f100 : Nat → Int32) (f102 : Nat → Int32) (f104 : Nat → Int32) (f118 : Nat → Int32) (f119 : Nat → Int32) (f128 : Nat → Int32) (f127 : Nat → Int32) (nS477 : Nat) (fS477 : Nat → Int32) : Option ((Nat → Int32) × (Nat → Int32) × (Nat → Int32) × (Nat → Int32) × Int32 × Int32 × Int32) := ((sp_tm_byteAt nf v132 (a1 + 2) f100).bind (fun p1 => (lp_vm_becomes_20 nf nf a1 v98 v117 v120 v129 v131 v132 f100 f102 f104 f118 f119 f128 f127 nS477 fS477  a1 ((a1 + 2) + 1) p1 0 f118 f119 f127 f128 v117 v120 v131)))
