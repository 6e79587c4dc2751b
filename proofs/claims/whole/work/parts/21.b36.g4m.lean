set_option maxHeartbeats 4000000 in
set_option maxRecDepth 100000 in
/-- ClassMillModel.pullFit -/
theorem vm_pullFit (l : Launch) (dC : Nat → ClassId) (dI : Nat → Nat → Nat) (sz : Nat) (h0 : Nat) (zs : (List Value)) (a1 : Int32) (v98 : Int32) (qf100 : Nat) (qf102 : Nat) (qf104 : Nat) (qf105 : Nat) (qf128 : Nat) (v131 : Int32) (cf128 : ClassId) (f128 : (Nat → Int32)) (cf105 : ClassId) (f105 : (Nat → Int32)) (cf102 : ClassId) (f102 : (Nat → Int32)) (cf100 : ClassId) (f100 : (Nat → Int32)) (cf104 : ClassId) (f104 : (Nat → Int32)) (nS477 : Nat) (fS477 : (Nat → Int32)) (hS477 : Nat) (qS477 : Nat) (tS477 : String) (nf : Nat) (r0 : Int32) (w131 : Int32) (hlen : zs.length = 155) (hf98 : zs[98]? = some (.int v98)) (hf100 : zs[100]? = some (.ref qf100)) (hf102 : zs[102]? = some (.ref qf102)) (hf104 : zs[104]? = some (.ref qf104)) (hf105 : zs[105]? = some (.ref qf105)) (hf128 : zs[128]? = some (.ref qf128)) (hf131 : zs[131]? = some (.int v131)) (hsp : sp_vm_pullFit nf a1 v98 v131 f128 f105 f102 f100 f104 nS477 fS477 = some (r0, w131)) : Met l yX13_pullFit (.code yX13_pullFit cX13_pullFit 3 (some .boolean) :: VS_h9) ({ frames := 10, cells := 0, slots := 0, locals := 229 }) (va_Pc [.ref h0, .int a1] (fun U => U.heap.size = sz ∧ va_P (dC, dI) vwCl [(h0, .inr (13, zs)), (qf128, .inl (cf128, 31, .inl f128)), (qf105, .inl (cf105, 8, .inl f105)), (qf102, .inl (cf102, 2048, .inl f102)), (qf100, .inl (cf100, 48000, .inl f100)), (qf104, .inl (cf104, 8, .inl f104))] U.heap ∧ va_K (dC, dI) vwCl [(cf128, .int), (cf105, .int), (cf102, .int), (cf100, .int), (cf104, .int)] U ∧ va_D (fun _ => True) [(h0, .inr (13, zs)), (qf128, .inl (cf128, 31, .inl f128)), (qf105, .inl (cf105, 8, .inl f105)), (qf102, .inl (cf102, 2048, .inl f102)), (qf100, .inl (cf100, 48000, .inl f100)), (qf104, .inl (cf104, 8, .inl f104))] ∧ pz_W nS477 fS477 hS477 qS477 (va_A [(h0, .inr (13, zs)), (qf128, .inl (cf128, 31, .inl f128)), (qf105, .inl (cf105, 8, .inl f105)), (qf102, .inl (cf102, 2048, .inl f102)), (qf100, .inl (cf100, 48000, .inl f100)), (qf104, .inl (cf104, 8, .inl f104))] sz) U U.heap ∧ vk_R RX13 477 tS477 hS477 U)) (va_Qi (fun (r : Int32) (u : (List Value)) => match u with | (zo1) => (r0 = r ∧ (r0 = 0 ∨ r0 = 1)) ∧ zo1.length = 155 ∧ (∀ j : Nat, j ≠ 131 → zo1[j]? = zs[j]?) ∧ zo1[131]? = some (.int w131)) (fun (u : (List Value)) (t : State) => match u with | (zo1) => va_P (dC, dI) vwCl [(h0, .inr (13, zo1)), (qf128, .inl (cf128, 31, .inl f128)), (qf105, .inl (cf105, 8, .inl f105)), (qf102, .inl (cf102, 2048, .inl f102)), (qf100, .inl (cf100, 48000, .inl f100)), (qf104, .inl (cf104, 8, .inl f104))] t.heap ∧ va_K (dC, dI) vwCl [(cf128, .int), (cf105, .int), (cf102, .int), (cf100, .int), (cf104, .int)] t ∧ va_D (va_A [(h0, .inr (13, zs)), (qf128, .inl (cf128, 31, .inl f128)), (qf105, .inl (cf105, 8, .inl f105)), (qf102, .inl (cf102, 2048, .inl f102)), (qf100, .inl (cf100, 48000, .inl f100)), (qf104, .inl (cf104, 8, .inl f104))] sz) [(h0, .inr (13, zo1)), (qf128, .inl (cf128, 31, .inl f128)), (qf105, .inl (cf105, 8, .inl f105)), (qf102, .inl (cf102, 2048, .inl f102)), (qf100, .inl (cf100, 48000, .inl f100)), (qf104, .inl (cf104, 8, .inl f104))]) (va_A [(h0, .inr (13, zs)), (qf128, .inl (cf128, 31, .inl f128)), (qf105, .inl (cf105, 8, .inl f105)), (qf102, .inl (cf102, 2048, .inl f102)), (qf100, .inl (cf100, 48000, .inl f100)), (qf104, .inl (cf104, 8, .inl f104))] sz)) 0 0 (va_A [(h0, .inr (13, zs)), (qf128, .inl (cf128, 31, .inl f128)), (qf105, .inl (cf105, 8, .inl f105)), (qf102, .inl (cf102, 2048, .inl f102)), (qf100, .inl (cf100, 48000, .inl f100)), (qf104, .inl (cf104, 8, .inl f104))] sz) := by
  refine Met.ofW (cc := cX13_pullFit) (maxL := 3) (ret := (some .boolean)) (by decide) rfl ?_
  intro p e s m args below meth c s₁ B hml hv
  obtain ⟨rfl, hsz, hP, hK, hD0, hZWS477, hZRS477⟩ := hv
  have hx := B.exec
  have hb := B.bytes
  have hr := B.returns
  have hts := atoms_spec (ws := (.code yX13_pullFit cX13_pullFit 3 (some .boolean) :: VS_h9)) B.pre
  replace hts := fun w (h : w ∈ VS_h9) => hts w (List.mem_cons_of_mem _ h)
  have hown : s.vm.findClass RX13 = some m.cls := findClass_of_methodNamed B.named
  have hlocks := B.notSynchronized
  subst hsz
  have hD := hD0.self (sz := s.heap.size)
  generalize hAe : va_A [(h0, .inr (13, zs)), (qf128, .inl (cf128, 31, .inl f128)), (qf105, .inl (cf105, 8, .inl f105)), (qf102, .inl (cf102, 2048, .inl f102)), (qf100, .inl (cf100, 48000, .inl f100)), (qf104, .inl (cf104, 8, .inl f104))] s.heap.size = A at hD hZWS477 ⊢
  have hA : ∀ q : Nat, s.heap.size ≤ q → A q := fun q h => by rw [← hAe]; exact Or.inr h
  have hP : va_P (dC, dI) vwCl [(h0, .inr (13, zs)), (qf128, .inl (cf128, 31, .inl f128)), (qf105, .inl (cf105, 8, .inl f105)), (qf102, .inl (cf102, 2048, .inl f102)), (qf100, .inl (cf100, 48000, .inl f100)), (qf104, .inl (cf104, 8, .inl f104))] s.heap := hP
  have hl := lv_entry ([.ref h0, .int a1]) (n := 3) (Nat.le_of_ble_eq_true rfl)
  rw [lg_entry_eq]
  generalize (lg_sl ([.ref h0, .int a1]) ++ List.replicate (3 - (lg_sl ([.ref h0, .int a1])).length) Slot.unset).toArray = ls at hl ⊢
  have hl : lv_has ls 3 [(0, .ref h0), (1, .int a1)] := hl
  obtain ⟨H, hH⟩ : ∃ H : Heap, s.heap = H := ⟨_, rfl⟩
  rw [hH] at hP ⊢
  have hS : va_S A s.heap H [] := by rw [← hH]; exact va_S.rf
  obtain ⟨locs, hlo⟩ : ∃ locs : List Loc, locs = [] := ⟨_, rfl⟩
  rw [← hlo] at hS ⊢
  have hrs0 : ∀ j : Nat, j ≠ 131 → zs[j]? = zs[j]? := fun _ _  => rfl
  unfold sp_vm_pullFit at hsp
  refine lv_aload_n hx hb dX13_pullFit_0 rfl (lv_at hl 0 rfl) ?_
  obtain ⟨⟨u1_0, u1_1⟩, hu_1, hsp⟩ := ox_bind hsp
  try dsimp only at hsp
  have hPc := hP.sub (ws' := [(h0, .inr (13, zs)), (qf128, .inl (cf128, 31, .inl f128))]) [0, 1] rfl
  have hDc := hD.sub (ws' := [(h0, .inr (13, zs)), (qf128, .inl (cf128, 31, .inl f128))]) [0, 1] (by decide) rfl
  have hKc := hK.sub (tys' := [(cf128, .int)]) [0] rfl
  have hFc := va_free (wc := [(h0, .inr (13, zs)), (qf128, .inl (cf128, 31, .inl f128))]) hD hS hA [0, 1] rfl
  refine va_calli (va_runV (As := []) (rest := []) ⟨hx, hb, hml, hown, hts⟩ (tm_pull l dC dI H.size h0 zs qf128 v131 cf128 f128 nf u1_0 u1_1 hlen hf128 hf131 hu_1) (cwV 0 hts gv_h9_68 rfl rfl rfl (by decide +kernel) ⟨Nat.le_of_ble_eq_true rfl, Nat.le_of_ble_eq_true rfl⟩) ⟨fun a U g mk q => by obtain ⟨q0, q1, qP, qK, qD⟩ := q; exact ⟨q0, q1, qP, va_K.moved (u := U) (U := U.calling g mk a) (Vm.Alike.refl U.vm) qK, qD⟩, va_recv hKc hPc (ci := 13) (q0 := 0) rfl rfl, fun U hU hW => ⟨rfl, by rw [hU], by rw [hU]; exact hPc, va_K.moved hW.alike hKc, hDc.weaken (fun _ _ _ _ => trivial)⟩⟩ rfl rfl hl.1 rfl (lv_room (Nat.le_of_ble_eq_true rfl)) dX13_pullFit_1 ⟨Nat.le_of_ble_eq_true rfl, Nat.le_of_ble_eq_true rfl⟩) hS (fun q _ h => hFc q h) hFc ?_
  clear hS
  intro r_1 u t H1 locs ht hvm hw hB hz1 hk1 hS
  obtain ⟨z_1, rfl⟩ : ∃ z, z = u := ⟨_, rfl⟩
  obtain ⟨hP1, hK1, hD1⟩ := hB
  rw [ht] at hP1
  have hK1 := va_K.moved hvm.symm hK1
  try dsimp only at hw
  have hPD := va_join (wr := [(qf105, .inl (cf105, 8, .inl f105)), (qf102, .inl (cf102, 2048, .inl f102)), (qf100, .inl (cf100, 48000, .inl f100)), (qf104, .inl (cf104, 8, .inl f104))]) (w1 := [(h0, .inr (13, z_1)), (qf128, .inl (cf128, 31, .inl f128))]) hP hD [0, 1] [2, 3, 4, 5] rfl rfl (by decide) (by decide) hk1 hFc hP1 hD1
  clear hP hD
  obtain ⟨hP, hD⟩ := hPD
  replace hK := (hK.sub (tys' := [(cf105, .int), (cf102, .int), (cf100, .int), (cf104, .int)]) [1, 2, 3, 4] rfl).app hK1
  clear hPc hDc hKc hFc hP1 hK1 hD1 hz1 hk1 ht hvm
  generalize H1 = H at hP hS ⊢
  replace hP : va_P (dC, dI) vwCl [(qf105, .inl (cf105, 8, .inl f105)), (qf102, .inl (cf102, 2048, .inl f102)), (qf100, .inl (cf100, 48000, .inl f100)), (qf104, .inl (cf104, 8, .inl f104)), (h0, .inr (13, z_1)), (qf128, .inl (cf128, 31, .inl f128))] H := hP
  replace hD : va_D A [(qf105, .inl (cf105, 8, .inl f105)), (qf102, .inl (cf102, 2048, .inl f102)), (qf100, .inl (cf100, 48000, .inl f100)), (qf104, .inl (cf104, 8, .inl f104)), (h0, .inr (13, z_1)), (qf128, .inl (cf128, 31, .inl f128))] := hD
  replace hK : va_K (dC, dI) vwCl [(cf105, .int), (cf102, .int), (cf100, .int), (cf104, .int), (cf128, .int)] s := hK
  obtain ⟨hwa_1, hln_1, hre_1, hch_1_131⟩ := hw
  have hfk_1_98 : z_1[98]? = some (.int v98) := (hre_1 98 (by decide)).trans (hf98)
  have hfk_1_100 : z_1[100]? = some (.ref qf100) := (hre_1 100 (by decide)).trans (hf100)
  have hfk_1_102 : z_1[102]? = some (.ref qf102) := (hre_1 102 (by decide)).trans (hf102)
  have hfk_1_104 : z_1[104]? = some (.ref qf104) := (hre_1 104 (by decide)).trans (hf104)
  have hfk_1_105 : z_1[105]? = some (.ref qf105) := (hre_1 105 (by decide)).trans (hf105)
  have hfk_1_128 : z_1[128]? = some (.ref qf128) := (hre_1 128 (by decide)).trans (hf128)
  have hrq_1 : ∀ j : Nat, j ≠ 131 → z_1[j]? = zs[j]? := fun j g131 => (hre_1 j g131).trans (hrs0 j g131)
  obtain rfl := hwa_1
  refine lv_istore_n (lv' := [(2, .int u1_0), (0, .ref h0), (1, .int a1)]) hx hb dX13_pullFit_4 rfl hl (by decide) rfl (fun ls hl => ?_)
  refine lv_iload_n hx hb dX13_pullFit_5 rfl (lv_at hl 0 rfl) ?_
  refine lv_iconst (v := (-1)) hx hb dX13_pullFit_6 (by decide) ?_
  refine lv_icmp_eq (tgt := 23) hx hb dX13_pullFit_7 (by decide) (fun c_2 => ?_) (fun c_2 => ?_)
  · rw [if_pos c_2] at hsp
    refine lv_iconst (v := 0) hx hb dX13_pullFit_23 (by decide) ?_
    have hr0 := Option.some.inj hsp
    clear hsp
    obtain ⟨hq0, hr1⟩ := Prod.mk.inj hr0
    clear hr0
    subst hq0
    subst hr1
    have hP9 := hP.sub (ws' := [(h0, .inr (13, z_1)), (qf128, .inl (cf128, 31, .inl f128)), (qf105, .inl (cf105, 8, .inl f105)), (qf102, .inl (cf102, 2048, .inl f102)), (qf100, .inl (cf100, 48000, .inl f100)), (qf104, .inl (cf104, 8, .inl f104))]) [4, 5, 0, 1, 2, 3] rfl
    have hD9 := hD.sub (ws' := [(h0, .inr (13, z_1)), (qf128, .inl (cf128, 31, .inl f128)), (qf105, .inl (cf105, 8, .inl f105)), (qf102, .inl (cf102, 2048, .inl f102)), (qf100, .inl (cf100, 48000, .inl f100)), (qf104, .inl (cf104, 8, .inl f104))]) [4, 5, 0, 1, 2, 3] (by decide) rfl
    have hK9 := hK.sub (tys' := [(cf128, .int), (cf105, .int), (cf102, .int), (cf100, .int), (cf104, .int)]) [4, 0, 1, 2, 3] rfl
    exact W.zret hx hb hr (by decide) (fun t ht hW => ⟨⟨(0), (z_1), rfl, ⟨⟨rfl, Or.inl rfl⟩, hln_1, hrq_1, hch_1_131⟩, by rw [ht]; exact hP9, va_K.moved hW.alike hK9, hD9⟩, hS.F ht⟩) hS.2.2 dX13_pullFit_24
  · rw [if_neg c_2] at hsp
    refine lv_aload_n hx hb dX13_pullFit_10 rfl (lv_at hl 1 rfl) ?_
    refine lv_iload_n hx hb dX13_pullFit_11 rfl (lv_at hl 0 rfl) ?_
    refine lv_iload_n hx hb dX13_pullFit_12 rfl (lv_at hl 2 rfl) ?_
    obtain ⟨u2_0, hu_2, hsp⟩ := ox_bind hsp
    try dsimp only at hsp
    have hPc := hP.sub (ws' := [(h0, .inr (13, z_1)), (qf105, .inl (cf105, 8, .inl f105)), (qf102, .inl (cf102, 2048, .inl f102)), (qf100, .inl (cf100, 48000, .inl f100)), (qf104, .inl (cf104, 8, .inl f104))]) [4, 0, 1, 2, 3] rfl
    have hDc := hD.sub (ws' := [(h0, .inr (13, z_1)), (qf105, .inl (cf105, 8, .inl f105)), (qf102, .inl (cf102, 2048, .inl f102)), (qf100, .inl (cf100, 48000, .inl f100)), (qf104, .inl (cf104, 8, .inl f104))]) [4, 0, 1, 2, 3] (by decide) rfl
    have hKc := hK.sub (tys' := [(cf105, .int), (cf102, .int), (cf100, .int), (cf104, .int)]) [0, 1, 2, 3] rfl
    have hFc := va_free (wc := [(h0, .inr (13, z_1)), (qf105, .inl (cf105, 8, .inl f105)), (qf102, .inl (cf102, 2048, .inl f102)), (qf100, .inl (cf100, 48000, .inl f100)), (qf104, .inl (cf104, 8, .inl f104))]) hD hS hA [4, 0, 1, 2, 3] rfl
    refine va_calli (va_runV (As := [.int u1_0, .int a1]) (rest := []) ⟨hx, hb, hml, hown, hts⟩ (vm_goes l dC dI H.size h0 z_1 u1_0 a1 v98 qf100 qf102 qf104 qf105 cf105 f105 cf102 f102 cf100 f100 cf104 f104 nS477 fS477 hS477 qS477 tS477 nf u2_0 hln_1 hfk_1_98 hfk_1_100 hfk_1_102 hfk_1_104 hfk_1_105 hu_2) (cwV 2 hts gv_h9_110 rfl rfl rfl (by decide +kernel) ⟨Nat.le_of_ble_eq_true rfl, Nat.le_of_ble_eq_true rfl⟩) ⟨fun a U g mk q => by obtain ⟨q0, q1, qP, qK, qD, qhZWS477, qhZRS477⟩ := q; exact ⟨q0, q1, qP, va_K.moved (u := U) (U := U.calling g mk a) (Vm.Alike.refl U.vm) qK, qD, pz_W.moved (u := U) (U := U.calling g mk a) (Vm.Alike.refl U.vm) qhZWS477, vk_R.same rfl qhZRS477⟩, va_recv hKc hPc (ci := 13) (q0 := 0) rfl rfl, fun U hU hW => ⟨rfl, by rw [hU], by rw [hU]; exact hPc, va_K.moved hW.alike hKc, hDc.weaken (fun _ _ _ _ => trivial), by rw [hU]; exact ((pz_W.moved hW.alike hZWS477).kept hS.2.1).narrow hFc, vk_R.warm hW hZRS477⟩⟩ rfl rfl hl.1 rfl (lv_room (Nat.le_of_ble_eq_true rfl)) dX13_pullFit_13 ⟨Nat.le_of_ble_eq_true rfl, Nat.le_of_ble_eq_true rfl⟩) hS (fun q _ h => hFc q h) hFc ?_
    clear hS
    intro r_3 u t H1 locs ht hvm hw hB hz1 hk1 hS
    obtain ⟨z_2, rfl⟩ : ∃ z, z = u := ⟨_, rfl⟩
    obtain ⟨hP1, hK1, hD1⟩ := hB
    rw [ht] at hP1
    have hK1 := va_K.moved hvm.symm hK1
    try dsimp only at hw
    have hPD := va_join (wr := [(qf128, .inl (cf128, 31, .inl f128))]) (w1 := [(h0, .inr (13, z_2)), (qf105, .inl (cf105, 8, .inl f105)), (qf102, .inl (cf102, 2048, .inl f102)), (qf100, .inl (cf100, 48000, .inl f100)), (qf104, .inl (cf104, 8, .inl f104))]) hP hD [4, 0, 1, 2, 3] [5] rfl rfl (by decide) (by decide) hk1 hFc hP1 hD1
    clear hP hD
    obtain ⟨hP, hD⟩ := hPD
    replace hK := (hK.sub (tys' := [(cf128, .int)]) [4] rfl).app hK1
    clear hPc hDc hKc hFc hP1 hK1 hD1 hz1 hk1 ht hvm
    generalize H1 = H at hP hS ⊢
    replace hP : va_P (dC, dI) vwCl [(qf128, .inl (cf128, 31, .inl f128)), (h0, .inr (13, z_2)), (qf105, .inl (cf105, 8, .inl f105)), (qf102, .inl (cf102, 2048, .inl f102)), (qf100, .inl (cf100, 48000, .inl f100)), (qf104, .inl (cf104, 8, .inl f104))] H := hP
    replace hD : va_D A [(qf128, .inl (cf128, 31, .inl f128)), (h0, .inr (13, z_2)), (qf105, .inl (cf105, 8, .inl f105)), (qf102, .inl (cf102, 2048, .inl f102)), (qf100, .inl (cf100, 48000, .inl f100)), (qf104, .inl (cf104, 8, .inl f104))] := hD
    replace hK : va_K (dC, dI) vwCl [(cf128, .int), (cf105, .int), (cf102, .int), (cf100, .int), (cf104, .int)] s := hK
    obtain ⟨hwa_2, hln_2, hre_2⟩ := hw
    have hfk_2_98 : z_2[98]? = some (.int v98) := (hre_2 98 ).trans (hfk_1_98)
    have hfk_2_100 : z_2[100]? = some (.ref qf100) := (hre_2 100 ).trans (hfk_1_100)
    have hfk_2_102 : z_2[102]? = some (.ref qf102) := (hre_2 102 ).trans (hfk_1_102)
    have hfk_2_104 : z_2[104]? = some (.ref qf104) := (hre_2 104 ).trans (hfk_1_104)
    have hfk_2_105 : z_2[105]? = some (.ref qf105) := (hre_2 105 ).trans (hfk_1_105)
    have hfk_2_128 : z_2[128]? = some (.ref qf128) := (hre_2 128 ).trans (hfk_1_128)
    have hfk_2_131 : z_2[131]? = some (.int u1_1) := (hre_2 131 ).trans (hch_1_131)
    have hrq_2 : ∀ j : Nat, j ≠ 131 → z_2[j]? = zs[j]? := fun j g131 => (hre_2 j ).trans (hrq_1 j g131)
    obtain ⟨rfl, hz_2⟩ := hwa_2
    rcases hz_2 with rfl | rfl
    · rw [if_pos rfl] at hsp
      refine lv_if_eq (tgt := 23) hx hb dX13_pullFit_16 (by decide) (fun c_4 => ?_) (fun c_4 => (show False by revert c_4; decide).elim)
      refine lv_iconst (v := 0) hx hb dX13_pullFit_23 (by decide) ?_
      have hr0 := Option.some.inj hsp
      clear hsp
      obtain ⟨hq0, hr1⟩ := Prod.mk.inj hr0
      clear hr0
      subst hq0
      subst hr1
      have hP9 := hP.sub (ws' := [(h0, .inr (13, z_2)), (qf128, .inl (cf128, 31, .inl f128)), (qf105, .inl (cf105, 8, .inl f105)), (qf102, .inl (cf102, 2048, .inl f102)), (qf100, .inl (cf100, 48000, .inl f100)), (qf104, .inl (cf104, 8, .inl f104))]) [1, 0, 2, 3, 4, 5] rfl
      have hD9 := hD.sub (ws' := [(h0, .inr (13, z_2)), (qf128, .inl (cf128, 31, .inl f128)), (qf105, .inl (cf105, 8, .inl f105)), (qf102, .inl (cf102, 2048, .inl f102)), (qf100, .inl (cf100, 48000, .inl f100)), (qf104, .inl (cf104, 8, .inl f104))]) [1, 0, 2, 3, 4, 5] (by decide) rfl
      have hK9 := hK.sub (tys' := [(cf128, .int), (cf105, .int), (cf102, .int), (cf100, .int), (cf104, .int)]) [0, 1, 2, 3, 4] rfl
      exact W.zret hx hb hr (by decide) (fun t ht hW => ⟨⟨(0), (z_2), rfl, ⟨⟨rfl, Or.inl rfl⟩, hln_2, hrq_2, hfk_2_131⟩, by rw [ht]; exact hP9, va_K.moved hW.alike hK9, hD9⟩, hS.F ht⟩) hS.2.2 dX13_pullFit_24
    · rw [if_neg (by decide)] at hsp
      refine lv_if_eq (tgt := 23) hx hb dX13_pullFit_16 (by decide) (fun c_5 => (show False by revert c_5; decide).elim) (fun c_5 => ?_)
      refine lv_iconst (v := 1) hx hb dX13_pullFit_19 (by decide) ?_
      refine lv_goto (tgt := 24) hx hb dX13_pullFit_20 (by decide) ?_
      have hr0 := Option.some.inj hsp
      clear hsp
      obtain ⟨hq0, hr1⟩ := Prod.mk.inj hr0
      clear hr0
      subst hq0
      subst hr1
      have hP9 := hP.sub (ws' := [(h0, .inr (13, z_2)), (qf128, .inl (cf128, 31, .inl f128)), (qf105, .inl (cf105, 8, .inl f105)), (qf102, .inl (cf102, 2048, .inl f102)), (qf100, .inl (cf100, 48000, .inl f100)), (qf104, .inl (cf104, 8, .inl f104))]) [1, 0, 2, 3, 4, 5] rfl
      have hD9 := hD.sub (ws' := [(h0, .inr (13, z_2)), (qf128, .inl (cf128, 31, .inl f128)), (qf105, .inl (cf105, 8, .inl f105)), (qf102, .inl (cf102, 2048, .inl f102)), (qf100, .inl (cf100, 48000, .inl f100)), (qf104, .inl (cf104, 8, .inl f104))]) [1, 0, 2, 3, 4, 5] (by decide) rfl
      have hK9 := hK.sub (tys' := [(cf128, .int), (cf105, .int), (cf102, .int), (cf100, .int), (cf104, .int)]) [0, 1, 2, 3, 4] rfl
      exact W.zret hx hb hr (by decide) (fun t ht hW => ⟨⟨(1), (z_2), rfl, ⟨⟨rfl, Or.inr rfl⟩, hln_2, hrq_2, hfk_2_131⟩, by rw [ht]; exact hP9, va_K.moved hW.alike hK9, hD9⟩, hS.F ht⟩) hS.2.2 dX13_pullFit_24
def jn_vm_calls_129 (nf : Nat) (a1 : Int32) (a2 : Int32) (v98 : Int32) (v117 : Int32) (v120 : Int32) (v130 : Int32) (v131 : Int32) (v132 : Int32) (f102 : Nat → Int32) (f100 : Nat → Int32) (f104 : Nat → Int32) (f118 : Nat → Int32) (f119 : Nat → Int32) (f128 : Nat → Int32) (f105 : Nat → Int32) (f137 : Nat → Int32) (nS477 : Nat) (fS477 : Nat → Int32)  (l3_129 : Int32) (g118_129 : Nat → Int32) (g119_129 : Nat → Int32) (g128_129 : Nat → Int32) (g137_129 : Nat → Int32) (x117_129 : Int32) (x120_129 : Int32) (x131_129 : Int32) : Option (Int32 × (Nat → Int32) × (Nat → Int32) × (Nat → Int32) × (Nat → Int32) × Int32 × Int32 × Int32) := ((sp_vm_typeAt nf (l3_129 + 1) v98 x117_129 f100 f104 f102 g118_129 g119_129 nS477 fS477).bind (fun p1 => (if p1.1 = 0 then (some (1, p1.2.1, p1.2.2.1, g128_129, g137_129, p1.2.2.2.1, p1.2.2.2.2, x131_129)) else ((sp_tm_comesBack nf p1.1 v130 x131_129 g128_129).bind (fun p2 => (if p2.1 = 0 then (some (0, p1.2.1, p1.2.2.1, p2.2.1, g137_129, p1.2.2.2.1, p1.2.2.2.2, p2.2.2)) else (some (1, p1.2.1, p1.2.2.1, p2.2.1, g137_129, p1.2.2.2.1, p1.2.2.2.2, p2.2.2))))))))
def lp_vm_calls_75 (nf n : Nat) (a1 : Int32) (a2 : Int32) (v98 : Int32) (v117 : Int32) (v120 : Int32) (v130 : Int32) (v131 : Int32) (v132 : Int32) (f102 : Nat → Int32) (f100 : Nat → Int32) (f104 : Nat → Int32) (f118 : Nat → Int32) (f119 : Nat → Int32) (f128 : Nat → Int32) (f105 : Nat → Int32) (f137 : Nat → Int32) (nS477 : Nat) (fS477 : Nat → Int32)  (l1_75 : Int32) (l2_75 : Int32) (l3_75 : Int32) (l5_75 : Int32) (g118_75 : Nat → Int32) (g119_75 : Nat → Int32) (g128_75 : Nat → Int32) (g137_75 : Nat → Int32) (x117_75 : Int32) (x120_75 : Int32) (x131_75 : Int32) : Option (Int32 × (Nat → Int32) × (Nat → Int32) × (Nat → Int32) × (Nat → Int32) × Int32 × Int32 × Int32) := match n with
  | 0 => none
  | n + 1 => (if l5_75 < 0 then (if l2_75 = 0 then ((sp_tm_partOf nf l1_75 0 v132 f102 f100).bind (fun p1 => ((sp_vm_typeOfClass nf v132 p1 v98 x117_75 x120_75 f102 f100 f104 g118_75 g119_75 nS477 fS477).bind (fun p2 => ((sp_vm_pullFit nf p2.1 v98 x131_75 g128_75 f105 f102 f100 f104 nS477 fS477).bind (fun p3 => (if p3.1 = 0 then (some (0, p2.2.1, p2.2.2.1, g128_75, g137_75, p2.2.2.2.1, p2.2.2.2.2, p3.2)) else (jn_vm_calls_129 nf a1 a2 v98 v117 v120 v130 v131 v132 f102 f100 f104 f118 f119 f128 f105 f137 nS477 fS477  l3_75 p2.2.1 p2.2.2.1 g128_75 g137_75 p2.2.2.2.1 p2.2.2.2.2 p3.2)))))))) else (jn_vm_calls_129 nf a1 a2 v98 v117 v120 v130 v131 v132 f102 f100 f104 f118 f119 f128 f105 f137 nS477 fS477  l3_75 g118_75 g119_75 g128_75 g137_75 x117_75 x120_75 x131_75)) else (if l5_75 < 0 then none else if 6 ≤ (l5_75 : Int32).toNatClampNeg then none else ((sp_vm_pullFit nf (g137_75 (l5_75 : Int32).toNatClampNeg) v98 x131_75 g128_75 f105 f102 f100 f104 nS477 fS477).bind (fun p4 => (if p4.1 = 0 then (some (0, g118_75, g119_75, g128_75, g137_75, x117_75, x120_75, p4.2)) else (lp_vm_calls_75 nf n a1 a2 v98 v117 v120 v130 v131 v132 f102 f100 f104 f118 f119 f128 f105 f137 nS477 fS477 l1_75 l2_75 l3_75 (l5_75 + (-1)) g118_75 g119_75 g128_75 g137_75 x117_75 x120_75 p4.2))))))
def lp_vm_calls_35 (nf n : Nat) (a1 : Int32) (a2 : Int32) (v98 : Int32) (v117 : Int32) (v120 : Int32) (v130 : Int32) (v131 : Int32) (v132 : Int32) (f102 : Nat → Int32) (f100 : Nat → Int32) (f104 : Nat → Int32) (f118 : Nat → Int32) (f119 : Nat → Int32) (f128 : Nat → Int32) (f105 : Nat → Int32) (f137 : Nat → Int32) (nS477 : Nat) (fS477 : Nat → Int32)  (l1_35 : Int32) (l2_35 : Int32) (l3_35 : Int32) (l4_35 : Int32) (g118_35 : Nat → Int32) (g119_35 : Nat → Int32) (g128_35 : Nat → Int32) (g137_35 : Nat → Int32) (x117_35 : Int32) (x120_35 : Int32) (x131_35 : Int32) : Option (Int32 × (Nat → Int32) × (Nat → Int32) × (Nat → Int32) × (Nat → Int32) × Int32 × Int32 × Int32) := match n with
  | 0 => none
  | n + 1 => (if l3_35 < 0 then none else if 48000 ≤ (l3_35 : Int32).toNatClampNeg then none else (if (f100 (l3_35 : Int32).toNatClampNeg) = 41 then (lp_vm_calls_75 nf nf a1 a2 v98 v117 v120 v130 v131 v132 f102 f100 f104 f118 f119 f128 f105 f137 nS477 fS477  l1_35 l2_35 l3_35 (l4_35 - 1) g118_35 g119_35 g128_35 g137_35 x117_35 x120_35 x131_35) else ((sp_vm_typeAt nf l3_35 v98 x117_35 f100 f104 f102 g118_35 g119_35 nS477 fS477).bind (fun p1 => (if l4_35 < 0 then none else if 6 ≤ (l4_35 : Int32).toNatClampNeg then none else (lp_vm_calls_35 nf n a1 a2 v98 v117 v120 v130 v131 v132 f102 f100 f104 f118 f119 f128 f105 f137 nS477 fS477 l1_35 l2_35 p1.2.2.2.2 (l4_35 + 1) p1.2.1 p1.2.2.1 g128_35 (upd g137_35 (l4_35 : Int32).toNatClampNeg p1.1) p1.2.2.2.1 p1.2.2.2.2 x131_35))))))
def sp_vm_calls (nf : Nat) (a1 : Int32) (a2 : Int32) (v98 : Int32) (v117 : Int32) (v120 : Int32) (v130 : Int32) (v131 : Int32) (v132 : Int32) (f102 : Nat → Int32) (f100 : Nat → Int32) (f104 : Nat → Int32) (f118 : Nat → Int32) (f119 : Nat → Int32) (f128 : Nat → Int32) (f105 : Nat → Int32) (f137 : Nat → Int32) (nS477 : Nat) (fS477 : Nat → Int32) : Option (Int32 × (Nat → Int32) × (Nat → Int32) × (Nat → Int32) × (Nat → Int32) × Int32 × Int32 × Int32) := ((sp_tm_partOf nf a1 2 v132 f102 f100).bind (fun p1 => (if ((256 * v132) + p1) < 0 then none else if 2048 ≤ (((256 * v132) + p1) : Int32).toNatClampNeg then none else (lp_vm_calls_35 nf nf a1 a2 v98 v117 v120 v130 v131 v132 f102 f100 f104 f118 f119 f128 f105 f137 nS477 fS477  a1 a2 (((6000 * v132) + (f102 (((256 * v132) + p1) : Int32).toNatClampNeg)) + 3) 0 f118 f119 f128 f137 v117 v120 v131))))
set_option maxHeartbeats 4000000 in
set_option maxRecDepth 100000 in
/-- ClassMillModel.calls -/
theorem vm_calls (l : Launch) (dC : Nat → ClassId) (dI : Nat → Nat → Nat) (sz : Nat) (h0 : Nat) (zs : (List Value)) (a1 : Int32) (a2 : Int32) (v98 : Int32) (qf100 : Nat) (qf102 : Nat) (qf104 : Nat) (qf105 : Nat) (v117 : Int32) (qf118 : Nat) (qf119 : Nat) (v120 : Int32) (qf128 : Nat) (v130 : Int32) (v131 : Int32) (v132 : Int32) (qf137 : Nat) (cf102 : ClassId) (f102 : (Nat → Int32)) (cf100 : ClassId) (f100 : (Nat → Int32)) (cf104 : ClassId) (f104 : (Nat → Int32)) (cf118 : ClassId) (f118 : (Nat → Int32)) (cf119 : ClassId) (f119 : (Nat → Int32)) (cf128 : ClassId) (f128 : (Nat → Int32)) (cf105 : ClassId) (f105 : (Nat → Int32)) (cf137 : ClassId) (f137 : (Nat → Int32)) (nS477 : Nat) (fS477 : (Nat → Int32)) (hS477 : Nat) (qS477 : Nat) (tS477 : String) (nf : Nat) (r0 : Int32) (o118 : (Nat → Int32)) (o119 : (Nat → Int32)) (o128 : (Nat → Int32)) (o137 : (Nat → Int32)) (w117 : Int32) (w120 : Int32) (w131 : Int32) (hlen : zs.length = 155) (hf98 : zs[98]? = some (.int v98)) (hf100 : zs[100]? = some (.ref qf100)) (hf102 : zs[102]? = some (.ref qf102)) (hf104 : zs[104]? = some (.ref qf104)) (hf105 : zs[105]? = some (.ref qf105)) (hf117 : zs[117]? = some (.int v117)) (hf118 : zs[118]? = some (.ref qf118)) (hf119 : zs[119]? = some (.ref qf119)) (hf120 : zs[120]? = some (.int v120)) (hf128 : zs[128]? = some (.ref qf128)) (hf130 : zs[130]? = some (.int v130)) (hf131 : zs[131]? = some (.int v131)) (hf132 : zs[132]? = some (.int v132)) (hf137 : zs[137]? = some (.ref qf137)) (hsp : sp_vm_calls nf a1 a2 v98 v117 v120 v130 v131 v132 f102 f100 f104 f118 f119 f128 f105 f137 nS477 fS477 = some (r0, o118, o119, o128, o137, w117, w120, w131)) : Met l yX13_calls (.code yX13_calls cX13_calls 6 (some .boolean) :: VS_h9) ({ frames := 11, cells := 0, slots := 0, locals := 251 }) (va_Pc [.ref h0, .int a1, .int a2] (fun U => U.heap.size = sz ∧ va_P (dC, dI) vwCl [(h0, .inr (13, zs)), (qf102, .inl (cf102, 2048, .inl f102)), (qf100, .inl (cf100, 48000, .inl f100)), (qf104, .inl (cf104, 8, .inl f104)), (qf118, .inl (cf118, 2100, .inl f118)), (qf119, .inl (cf119, 2100, .inl f119)), (qf128, .inl (cf128, 31, .inl f128)), (qf105, .inl (cf105, 8, .inl f105)), (qf137, .inl (cf137, 6, .inl f137))] U.heap ∧ va_K (dC, dI) vwCl [(cf102, .int), (cf100, .int), (cf104, .int), (cf118, .int), (cf119, .int), (cf128, .int), (cf105, .int), (cf137, .int)] U ∧ va_D (fun _ => True) [(h0, .inr (13, zs)), (qf102, .inl (cf102, 2048, .inl f102)), (qf100, .inl (cf100, 48000, .inl f100)), (qf104, .inl (cf104, 8, .inl f104)), (qf118, .inl (cf118, 2100, .inl f118)), (qf119, .inl (cf119, 2100, .inl f119)), (qf128, .inl (cf128, 31, .inl f128)), (qf105, .inl (cf105, 8, .inl f105)), (qf137, .inl (cf137, 6, .inl f137))] ∧ pz_W nS477 fS477 hS477 qS477 (va_A [(h0, .inr (13, zs)), (qf102, .inl (cf102, 2048, .inl f102)), (qf100, .inl (cf100, 48000, .inl f100)), (qf104, .inl (cf104, 8, .inl f104)), (qf118, .inl (cf118, 2100, .inl f118)), (qf119, .inl (cf119, 2100, .inl f119)), (qf128, .inl (cf128, 31, .inl f128)), (qf105, .inl (cf105, 8, .inl f105)), (qf137, .inl (cf137, 6, .inl f137))] sz) U U.heap ∧ vk_R RX13 477 tS477 hS477 U)) (va_Qi (fun (r : Int32) (u : (List Value)) => match u with | (zo1) => (r0 = r ∧ (r0 = 0 ∨ r0 = 1)) ∧ zo1.length = 155 ∧ (∀ j : Nat, j ≠ 117 → j ≠ 120 → j ≠ 131 → zo1[j]? = zs[j]?) ∧ zo1[117]? = some (.int w117) ∧ zo1[120]? = some (.int w120) ∧ zo1[131]? = some (.int w131)) (fun (u : (List Value)) (t : State) => match u with | (zo1) => va_P (dC, dI) vwCl [(h0, .inr (13, zo1)), (qf102, .inl (cf102, 2048, .inl f102)), (qf100, .inl (cf100, 48000, .inl f100)), (qf104, .inl (cf104, 8, .inl f104)), (qf118, .inl (cf118, 2100, .inl o118)), (qf119, .inl (cf119, 2100, .inl o119)), (qf128, .inl (cf128, 31, .inl o128)), (qf105, .inl (cf105, 8, .inl f105)), (qf137, .inl (cf137, 6, .inl o137))] t.heap ∧ va_K (dC, dI) vwCl [(cf102, .int), (cf100, .int), (cf104, .int), (cf118, .int), (cf119, .int), (cf128, .int), (cf105, .int), (cf137, .int)] t ∧ va_D (va_A [(h0, .inr (13, zs)), (qf102, .inl (cf102, 2048, .inl f102)), (qf100, .inl (cf100, 48000, .inl f100)), (qf104, .inl (cf104, 8, .inl f104)), (qf118, .inl (cf118, 2100, .inl f118)), (qf119, .inl (cf119, 2100, .inl f119)), (qf128, .inl (cf128, 31, .inl f128)), (qf105, .inl (cf105, 8, .inl f105)), (qf137, .inl (cf137, 6, .inl f137))] sz) [(h0, .inr (13, zo1)), (qf102, .inl (cf102, 2048, .inl f102)), (qf100, .inl (cf100, 48000, .inl f100)), (qf104, .inl (cf104, 8, .inl f104)), (qf118, .inl (cf118, 2100, .inl o118)), (qf119, .inl (cf119, 2100, .inl o119)), (qf128, .inl (cf128, 31, .inl o128)), (qf105, .inl (cf105, 8, .inl f105)), (qf137, .inl (cf137, 6, .inl o137))]) (va_A [(h0, .inr (13, zs)), (qf102, .inl (cf102, 2048, .inl f102)), (qf100, .inl (cf100, 48000, .inl f100)), (qf104, .inl (cf104, 8, .inl f104)), (qf118, .inl (cf118, 2100, .inl f118)), (qf119, .inl (cf119, 2100, .inl f119)), (qf128, .inl (cf128, 31, .inl f128)), (qf105, .inl (cf105, 8, .inl f105)), (qf137, .inl (cf137, 6, .inl f137))] sz)) 0 0 (va_A [(h0, .inr (13, zs)), (qf102, .inl (cf102, 2048, .inl f102)), (qf100, .inl (cf100, 48000, .inl f100)), (qf104, .inl (cf104, 8, .inl f104)), (qf118, .inl (cf118, 2100, .inl f118)), (qf119, .inl (cf119, 2100, .inl f119)), (qf128, .inl (cf128, 31, .inl f128)), (qf105, .inl (cf105, 8, .inl f105)), (qf137, .inl (cf137, 6, .inl f137))] sz) := by
  refine Met.ofW (cc := cX13_calls) (maxL := 6) (ret := (some .boolean)) (by decide) rfl ?_
  intro p e s m args below meth c s₁ B hml hv
  obtain ⟨rfl, hsz, hP, hK, hD0, hZWS477, hZRS477⟩ := hv
  have hx := B.exec
  have hb := B.bytes
  have hr := B.returns
  have hts := atoms_spec (ws := (.code yX13_calls cX13_calls 6 (some .boolean) :: VS_h9)) B.pre
  replace hts := fun w (h : w ∈ VS_h9) => hts w (List.mem_cons_of_mem _ h)
  have hown : s.vm.findClass RX13 = some m.cls := findClass_of_methodNamed B.named
  have hlocks := B.notSynchronized
  subst hsz
  have hD := hD0.self (sz := s.heap.size)
  generalize hAe : va_A [(h0, .inr (13, zs)), (qf102, .inl (cf102, 2048, .inl f102)), (qf100, .inl (cf100, 48000, .inl f100)), (qf104, .inl (cf104, 8, .inl f104)), (qf118, .inl (cf118, 2100, .inl f118)), (qf119, .inl (cf119, 2100, .inl f119)), (qf128, .inl (cf128, 31, .inl f128)), (qf105, .inl (cf105, 8, .inl f105)), (qf137, .inl (cf137, 6, .inl f137))] s.heap.size = A at hD hZWS477 ⊢
  have hA : ∀ q : Nat, s.heap.size ≤ q → A q := fun q h => by rw [← hAe]; exact Or.inr h
  have hP : va_P (dC, dI) vwCl [(h0, .inr (13, zs)), (qf102, .inl (cf102, 2048, .inl f102)), (qf100, .inl (cf100, 48000, .inl f100)), (qf104, .inl (cf104, 8, .inl f104)), (qf118, .inl (cf118, 2100, .inl f118)), (qf119, .inl (cf119, 2100, .inl f119)), (qf128, .inl (cf128, 31, .inl f128)), (qf105, .inl (cf105, 8, .inl f105)), (qf137, .inl (cf137, 6, .inl f137))] s.heap := hP
  have hl := lv_entry ([.ref h0, .int a1, .int a2]) (n := 6) (Nat.le_of_ble_eq_true rfl)
  rw [lg_entry_eq]
  generalize (lg_sl ([.ref h0, .int a1, .int a2]) ++ List.replicate (6 - (lg_sl ([.ref h0, .int a1, .int a2])).length) Slot.unset).toArray = ls at hl ⊢
  have hl : lv_has ls 6 [(0, .ref h0), (1, .int a1), (2, .int a2)] := hl
  obtain ⟨H, hH⟩ : ∃ H : Heap, s.heap = H := ⟨_, rfl⟩
  rw [hH] at hP ⊢
  have hS : va_S A s.heap H [] := by rw [← hH]; exact va_S.rf
  obtain ⟨locs, hlo⟩ : ∃ locs : List Loc, locs = [] := ⟨_, rfl⟩
  rw [← hlo] at hS ⊢
  have hrs0 : ∀ j : Nat, j ≠ 117 → j ≠ 120 → j ≠ 131 → zs[j]? = zs[j]? := fun _ _ _ _  => rfl
  unfold sp_vm_calls at hsp
  refine jn_use (α := Heap × List Loc × Array Slot × List Value × Int32 × (Nat → Int32) × (Nat → Int32) × (Nat → Int32) × (Nat → Int32) × Int32 × Int32 × Int32) (fun x9 => x9.1) (fun x9 => x9.2.1) (fun x9 => F0 m 129 x9.2.2.1 []) (fun x9 => match x9 with | (H, locs, ls, z129, l3_129, g118_129, g119_129, g128_129, g137_129, x117_129, x120_129, x131_129) => lv_has ls 6 [(0, .ref h0), (3, .int l3_129)] ∧ va_S A s.heap H locs ∧ va_D A [(h0, .inr (13, z129)), (qf102, .inl (cf102, 2048, .inl f102)), (qf100, .inl (cf100, 48000, .inl f100)), (qf104, .inl (cf104, 8, .inl f104)), (qf118, .inl (cf118, 2100, .inl g118_129)), (qf119, .inl (cf119, 2100, .inl g119_129)), (qf128, .inl (cf128, 31, .inl g128_129)), (qf105, .inl (cf105, 8, .inl f105)), (qf137, .inl (cf137, 6, .inl g137_129))] ∧ va_P (dC, dI) vwCl [(h0, .inr (13, z129)), (qf102, .inl (cf102, 2048, .inl f102)), (qf100, .inl (cf100, 48000, .inl f100)), (qf104, .inl (cf104, 8, .inl f104)), (qf118, .inl (cf118, 2100, .inl g118_129)), (qf119, .inl (cf119, 2100, .inl g119_129)), (qf128, .inl (cf128, 31, .inl g128_129)), (qf105, .inl (cf105, 8, .inl f105)), (qf137, .inl (cf137, 6, .inl g137_129))] H ∧ z129[98]? = some (.int v98) ∧ z129[100]? = some (.ref qf100) ∧ z129[102]? = some (.ref qf102) ∧ z129[104]? = some (.ref qf104) ∧ z129[105]? = some (.ref qf105) ∧ z129[117]? = some (.int x117_129) ∧ z129[118]? = some (.ref qf118) ∧ z129[119]? = some (.ref qf119) ∧ z129[120]? = some (.int x120_129) ∧ z129[128]? = some (.ref qf128) ∧ z129[130]? = some (.int v130) ∧ z129[131]? = some (.int x131_129) ∧ z129[132]? = some (.int v132) ∧ z129[137]? = some (.ref qf137) ∧ z129.length = 155 ∧ (∀ j : Nat, j ≠ 117 → j ≠ 120 → j ≠ 131 → z129[j]? = zs[j]?) ∧ jn_vm_calls_129 nf a1 a2 v98 v117 v120 v130 v131 v132 f102 f100 f104 f118 f119 f128 f105 f137 nS477 fS477 l3_129 g118_129 g119_129 g128_129 g137_129 x117_129 x120_129 x131_129 = some (r0, o118, o119, o128, o137, w117, w120, w131)) ?_ ?_
  · intro x9 hJ9
    obtain ⟨H, locs, ls, z129, l3_129, g118_129, g119_129, g128_129, g137_129, x117_129, x120_129, x131_129⟩ := x9
    obtain ⟨hl, hS, hD, hP, hfh_129_98, hfh_129_100, hfh_129_102, hfh_129_104, hfh_129_105, hfh_129_117, hfh_129_118, hfh_129_119, hfh_129_120, hfh_129_128, hfh_129_130, hfh_129_131, hfh_129_132, hfh_129_137, hlh_129, hrh_129, hsp⟩ := hJ9
    replace hl : lv_has ls 6 [(0, .ref h0), (3, .int l3_129)] := hl
    replace hS : va_S A s.heap H locs := hS
    replace hD : va_D A [(h0, .inr (13, z129)), (qf102, .inl (cf102, 2048, .inl f102)), (qf100, .inl (cf100, 48000, .inl f100)), (qf104, .inl (cf104, 8, .inl f104)), (qf118, .inl (cf118, 2100, .inl g118_129)), (qf119, .inl (cf119, 2100, .inl g119_129)), (qf128, .inl (cf128, 31, .inl g128_129)), (qf105, .inl (cf105, 8, .inl f105)), (qf137, .inl (cf137, 6, .inl g137_129))] := hD
    replace hP : va_P (dC, dI) vwCl [(h0, .inr (13, z129)), (qf102, .inl (cf102, 2048, .inl f102)), (qf100, .inl (cf100, 48000, .inl f100)), (qf104, .inl (cf104, 8, .inl f104)), (qf118, .inl (cf118, 2100, .inl g118_129)), (qf119, .inl (cf119, 2100, .inl g119_129)), (qf128, .inl (cf128, 31, .inl g128_129)), (qf105, .inl (cf105, 8, .inl f105)), (qf137, .inl (cf137, 6, .inl g137_129))] H := hP
    replace hsp : jn_vm_calls_129 nf a1 a2 v98 v117 v120 v130 v131 v132 f102 f100 f104 f118 f119 f128 f105 f137 nS477 fS477 l3_129 g118_129 g119_129 g128_129 g137_129 x117_129 x120_129 x131_129 = some (r0, o118, o119, o128, o137, w117, w120, w131) := hsp
    show W _ _ _ _ _ _ _ _ _ _ H locs _ _ _ (F0 m 129 ls [])
    unfold jn_vm_calls_129 at hsp
    try dsimp only at hsp
    refine lv_aload_n hx hb dX13_calls_129 rfl (lv_at hl 0 rfl) ?_
    refine lv_iload_n hx hb dX13_calls_130 rfl (lv_at hl 1 rfl) ?_
    refine lv_iconst (v := 1) hx hb dX13_calls_131 (by decide) ?_
    refine lv_iadd hx hb dX13_calls_132 ?_
    obtain ⟨⟨u7_0, g907_1, g907_2, u7_3, u7_4⟩, hu_7, hsp⟩ := ox_bind hsp
    try dsimp only at hsp
    have hPc := hP.sub (ws' := [(h0, .inr (13, z129)), (qf100, .inl (cf100, 48000, .inl f100)), (qf104, .inl (cf104, 8, .inl f104)), (qf102, .inl (cf102, 2048, .inl f102)), (qf118, .inl (cf118, 2100, .inl g118_129)), (qf119, .inl (cf119, 2100, .inl g119_129))]) [0, 2, 3, 1, 4, 5] rfl
    have hDc := hD.sub (ws' := [(h0, .inr (13, z129)), (qf100, .inl (cf100, 48000, .inl f100)), (qf104, .inl (cf104, 8, .inl f104)), (qf102, .inl (cf102, 2048, .inl f102)), (qf118, .inl (cf118, 2100, .inl g118_129)), (qf119, .inl (cf119, 2100, .inl g119_129))]) [0, 2, 3, 1, 4, 5] (by decide) rfl
    have hKc := hK.sub (tys' := [(cf100, .int), (cf104, .int), (cf102, .int), (cf118, .int), (cf119, .int)]) [1, 2, 0, 3, 4] rfl
    have hFc := va_free (wc := [(h0, .inr (13, z129)), (qf100, .inl (cf100, 48000, .inl f100)), (qf104, .inl (cf104, 8, .inl f104)), (qf102, .inl (cf102, 2048, .inl f102)), (qf118, .inl (cf118, 2100, .inl g118_129)), (qf119, .inl (cf119, 2100, .inl g119_129))]) hD hS hA [0, 2, 3, 1, 4, 5] rfl
    refine va_calli (va_runV (As := [.int (l3_129 + 1)]) (rest := []) ⟨hx, hb, hml, hown, hts⟩ (vm_typeAt l dC dI H.size h0 z129 ((l3_129 + 1)) v98 qf100 qf102 qf104 x117_129 qf118 qf119 x120_129 cf100 f100 cf104 f104 cf102 f102 cf118 g118_129 cf119 g119_129 nS477 fS477 hS477 qS477 tS477 nf u7_0 g907_1 g907_2 u7_3 u7_4 hlh_129 hfh_129_98 hfh_129_100 hfh_129_102 hfh_129_104 hfh_129_117 hfh_129_118 hfh_129_119 hfh_129_120 hu_7) (cwV 1 hts gv_h9_100 rfl rfl rfl (by decide +kernel) ⟨Nat.le_of_ble_eq_true rfl, Nat.le_of_ble_eq_true rfl⟩) ⟨fun a U g mk q => by obtain ⟨q0, q1, qP, qK, qD, qhZWS477, qhZRS477⟩ := q; exact ⟨q0, q1, qP, va_K.moved (u := U) (U := U.calling g mk a) (Vm.Alike.refl U.vm) qK, qD, pz_W.moved (u := U) (U := U.calling g mk a) (Vm.Alike.refl U.vm) qhZWS477, vk_R.same rfl qhZRS477⟩, va_recv hKc hPc (ci := 13) (q0 := 0) rfl rfl, fun U hU hW => ⟨rfl, by rw [hU], by rw [hU]; exact hPc, va_K.moved hW.alike hKc, hDc.weaken (fun _ _ _ _ => trivial), by rw [hU]; exact ((pz_W.moved hW.alike hZWS477).kept hS.2.1).narrow hFc, vk_R.warm hW hZRS477⟩⟩ rfl rfl hl.1 rfl (lv_room (Nat.le_of_ble_eq_true rfl)) dX13_calls_133 ⟨Nat.le_of_ble_eq_true rfl, Nat.le_of_ble_eq_true rfl⟩) hS (fun q _ h => hFc q h) hFc ?_
    clear hS
    intro r_18 u t H1 locs ht hvm hw hB hz1 hk1 hS
    obtain ⟨z_7, rfl⟩ : ∃ z, z = u := ⟨_, rfl⟩
    obtain ⟨hP1, hK1, hD1⟩ := hB
    rw [ht] at hP1
    have hK1 := va_K.moved hvm.symm hK1
    try dsimp only at hw
    have hPD := va_join (wr := [(qf128, .inl (cf128, 31, .inl g128_129)), (qf105, .inl (cf105, 8, .inl f105)), (qf137, .inl (cf137, 6, .inl g137_129))]) (w1 := [(h0, .inr (13, z_7)), (qf100, .inl (cf100, 48000, .inl f100)), (qf104, .inl (cf104, 8, .inl f104)), (qf102, .inl (cf102, 2048, .inl f102)), (qf118, .inl (cf118, 2100, .inl g907_1)), (qf119, .inl (cf119, 2100, .inl g907_2))]) hP hD [0, 2, 3, 1, 4, 5] [6, 7, 8] rfl rfl (by decide) (by decide) hk1 hFc hP1 hD1
    clear hP hD
    obtain ⟨hP, hD⟩ := hPD
    replace hK := (hK.sub (tys' := [(cf128, .int), (cf105, .int), (cf137, .int)]) [5, 6, 7] rfl).app hK1
    clear hPc hDc hKc hFc hP1 hK1 hD1 hz1 hk1 ht hvm
    generalize H1 = H at hP hS ⊢
    replace hP : va_P (dC, dI) vwCl [(qf128, .inl (cf128, 31, .inl g128_129)), (qf105, .inl (cf105, 8, .inl f105)), (qf137, .inl (cf137, 6, .inl g137_129)), (h0, .inr (13, z_7)), (qf100, .inl (cf100, 48000, .inl f100)), (qf104, .inl (cf104, 8, .inl f104)), (qf102, .inl (cf102, 2048, .inl f102)), (qf118, .inl (cf118, 2100, .inl g907_1)), (qf119, .inl (cf119, 2100, .inl g907_2))] H := hP
    replace hD : va_D A [(qf128, .inl (cf128, 31, .inl g128_129)), (qf105, .inl (cf105, 8, .inl f105)), (qf137, .inl (cf137, 6, .inl g137_129)), (h0, .inr (13, z_7)), (qf100, .inl (cf100, 48000, .inl f100)), (qf104, .inl (cf104, 8, .inl f104)), (qf102, .inl (cf102, 2048, .inl f102)), (qf118, .inl (cf118, 2100, .inl g907_1)), (qf119, .inl (cf119, 2100, .inl g907_2))] := hD
    replace hK : va_K (dC, dI) vwCl [(cf128, .int), (cf105, .int), (cf137, .int), (cf100, .int), (cf104, .int), (cf102, .int), (cf118, .int), (cf119, .int)] s := hK
    obtain ⟨hwa_7, hln_7, hre_7, hch_7_117, hch_7_120⟩ := hw
    have hfk_7_98 : z_7[98]? = some (.int v98) := (hre_7 98 (by decide) (by decide)).trans (hfh_129_98)
    have hfk_7_100 : z_7[100]? = some (.ref qf100) := (hre_7 100 (by decide) (by decide)).trans (hfh_129_100)
    have hfk_7_102 : z_7[102]? = some (.ref qf102) := (hre_7 102 (by decide) (by decide)).trans (hfh_129_102)
    have hfk_7_104 : z_7[104]? = some (.ref qf104) := (hre_7 104 (by decide) (by decide)).trans (hfh_129_104)
    have hfk_7_105 : z_7[105]? = some (.ref qf105) := (hre_7 105 (by decide) (by decide)).trans (hfh_129_105)
    have hfk_7_118 : z_7[118]? = some (.ref qf118) := (hre_7 118 (by decide) (by decide)).trans (hfh_129_118)
    have hfk_7_119 : z_7[119]? = some (.ref qf119) := (hre_7 119 (by decide) (by decide)).trans (hfh_129_119)
    have hfk_7_128 : z_7[128]? = some (.ref qf128) := (hre_7 128 (by decide) (by decide)).trans (hfh_129_128)
    have hfk_7_130 : z_7[130]? = some (.int v130) := (hre_7 130 (by decide) (by decide)).trans (hfh_129_130)
    have hfk_7_131 : z_7[131]? = some (.int x131_129) := (hre_7 131 (by decide) (by decide)).trans (hfh_129_131)
    have hfk_7_132 : z_7[132]? = some (.int v132) := (hre_7 132 (by decide) (by decide)).trans (hfh_129_132)
    have hfk_7_137 : z_7[137]? = some (.ref qf137) := (hre_7 137 (by decide) (by decide)).trans (hfh_129_137)
    have hrq_7 : ∀ j : Nat, j ≠ 117 → j ≠ 120 → j ≠ 131 → z_7[j]? = zs[j]? := fun j g117 g120 g131 => (hre_7 j g117 g120).trans (hrh_129 j g117 g120 g131)
    obtain rfl := hwa_7
    refine lv_istore (lv' := [(5, .int u7_0), (0, .ref h0), (3, .int l3_129)]) hx hb dX13_calls_136 hl (by decide) rfl (fun ls hl => ?_)
    refine lv_iload hx hb dX13_calls_138 (lv_at hl 0 rfl) ?_
    refine lv_if_eq (tgt := 152) hx hb dX13_calls_140 (by decide) (fun c_19 => ?_) (fun c_19 => ?_)
    · rw [if_pos c_19] at hsp
      refine lv_iconst (v := 1) hx hb dX13_calls_152 (by decide) ?_
      refine lv_goto (tgt := 157) hx hb dX13_calls_153 (by decide) ?_
      have hr0 := Option.some.inj hsp
      clear hsp
      obtain ⟨hq0, hr1⟩ := Prod.mk.inj hr0
      clear hr0
      obtain ⟨hq1, hr2⟩ := Prod.mk.inj hr1
      clear hr1
      obtain ⟨hq2, hr3⟩ := Prod.mk.inj hr2
      clear hr2
      obtain ⟨hq3, hr4⟩ := Prod.mk.inj hr3
      clear hr3
      obtain ⟨hq4, hr5⟩ := Prod.mk.inj hr4
      clear hr4
      obtain ⟨hq5, hr6⟩ := Prod.mk.inj hr5
      clear hr5
      obtain ⟨hq6, hr7⟩ := Prod.mk.inj hr6
      clear hr6
      subst hq0
      subst hq1
      subst hq2
      subst hq3
      subst hq4
      subst hq5
      subst hq6
      subst hr7
      have hP9 := hP.sub (ws' := [(h0, .inr (13, z_7)), (qf102, .inl (cf102, 2048, .inl f102)), (qf100, .inl (cf100, 48000, .inl f100)), (qf104, .inl (cf104, 8, .inl f104)), (qf118, .inl (cf118, 2100, .inl g907_1)), (qf119, .inl (cf119, 2100, .inl g907_2)), (qf128, .inl (cf128, 31, .inl g128_129)), (qf105, .inl (cf105, 8, .inl f105)), (qf137, .inl (cf137, 6, .inl g137_129))]) [3, 6, 4, 5, 7, 8, 0, 1, 2] rfl
      have hD9 := hD.sub (ws' := [(h0, .inr (13, z_7)), (qf102, .inl (cf102, 2048, .inl f102)), (qf100, .inl (cf100, 48000, .inl f100)), (qf104, .inl (cf104, 8, .inl f104)), (qf118, .inl (cf118, 2100, .inl g907_1)), (qf119, .inl (cf119, 2100, .inl g907_2)), (qf128, .inl (cf128, 31, .inl g128_129)), (qf105, .inl (cf105, 8, .inl f105)), (qf137, .inl (cf137, 6, .inl g137_129))]) [3, 6, 4, 5, 7, 8, 0, 1, 2] (by decide) rfl
      have hK9 := hK.sub (tys' := [(cf102, .int), (cf100, .int), (cf104, .int), (cf118, .int), (cf119, .int), (cf128, .int), (cf105, .int), (cf137, .int)]) [5, 3, 4, 6, 7, 0, 1, 2] rfl
      exact W.zret hx hb hr (by decide) (fun t ht hW => ⟨⟨(1), (z_7), rfl, ⟨⟨rfl, Or.inr rfl⟩, hln_7, hrq_7, hch_7_117, hch_7_120, hfk_7_131⟩, by rw [ht]; exact hP9, va_K.moved hW.alike hK9, hD9⟩, hS.F ht⟩) hS.2.2 dX13_calls_157
    · rw [if_neg c_19] at hsp
      refine lv_aload_n hx hb dX13_calls_143 rfl (lv_at hl 1 rfl) ?_
      refine lv_iload hx hb dX13_calls_144 (lv_at hl 0 rfl) ?_
      obtain ⟨⟨u8_0, g908_1, u8_2⟩, hu_8, hsp⟩ := ox_bind hsp
      try dsimp only at hsp
      have hPc := hP.sub (ws' := [(h0, .inr (13, z_7)), (qf128, .inl (cf128, 31, .inl g128_129))]) [3, 0] rfl
      have hDc := hD.sub (ws' := [(h0, .inr (13, z_7)), (qf128, .inl (cf128, 31, .inl g128_129))]) [3, 0] (by decide) rfl
      have hKc := hK.sub (tys' := [(cf128, .int)]) [0] rfl
      have hFc := va_free (wc := [(h0, .inr (13, z_7)), (qf128, .inl (cf128, 31, .inl g128_129))]) hD hS hA [3, 0] rfl
      refine va_calli (va_runV (As := [.int u7_0]) (rest := []) ⟨hx, hb, hml, hown, hts⟩ (tm_comesBack l dC dI H.size h0 z_7 u7_0 qf128 v130 x131_129 cf128 g128_129 nf u8_0 g908_1 u8_2 hln_7 hfk_7_128 hfk_7_130 hfk_7_131 hu_8) (cwV 1 hts gv_h9_69 rfl rfl rfl (by decide +kernel) ⟨Nat.le_of_ble_eq_true rfl, Nat.le_of_ble_eq_true rfl⟩) ⟨fun a U g mk q => by obtain ⟨q0, q1, qP, qK, qD⟩ := q; exact ⟨q0, q1, qP, va_K.moved (u := U) (U := U.calling g mk a) (Vm.Alike.refl U.vm) qK, qD⟩, va_recv hKc hPc (ci := 13) (q0 := 0) rfl rfl, fun U hU hW => ⟨rfl, by rw [hU], by rw [hU]; exact hPc, va_K.moved hW.alike hKc, hDc.weaken (fun _ _ _ _ => trivial)⟩⟩ rfl rfl hl.1 rfl (lv_room (Nat.le_of_ble_eq_true rfl)) dX13_calls_146 ⟨Nat.le_of_ble_eq_true rfl, Nat.le_of_ble_eq_true rfl⟩) hS (fun q _ h => hFc q h) hFc ?_
      clear hS
      intro r_20 u t H1 locs ht hvm hw hB hz1 hk1 hS
      obtain ⟨z_8, rfl⟩ : ∃ z, z = u := ⟨_, rfl⟩
      obtain ⟨hP1, hK1, hD1⟩ := hB
      rw [ht] at hP1
      have hK1 := va_K.moved hvm.symm hK1
      try dsimp only at hw
      have hPD := va_join (wr := [(qf105, .inl (cf105, 8, .inl f105)), (qf137, .inl (cf137, 6, .inl g137_129)), (qf100, .inl (cf100, 48000, .inl f100)), (qf104, .inl (cf104, 8, .inl f104)), (qf102, .inl (cf102, 2048, .inl f102)), (qf118, .inl (cf118, 2100, .inl g907_1)), (qf119, .inl (cf119, 2100, .inl g907_2))]) (w1 := [(h0, .inr (13, z_8)), (qf128, .inl (cf128, 31, .inl g908_1))]) hP hD [3, 0] [1, 2, 4, 5, 6, 7, 8] rfl rfl (by decide) (by decide) hk1 hFc hP1 hD1
      clear hP hD
      obtain ⟨hP, hD⟩ := hPD
      replace hK := (hK.sub (tys' := [(cf105, .int), (cf137, .int), (cf100, .int), (cf104, .int), (cf102, .int), (cf118, .int), (cf119, .int)]) [1, 2, 3, 4, 5, 6, 7] rfl).app hK1
      clear hPc hDc hKc hFc hP1 hK1 hD1 hz1 hk1 ht hvm
      generalize H1 = H at hP hS ⊢
      replace hP : va_P (dC, dI) vwCl [(qf105, .inl (cf105, 8, .inl f105)), (qf137, .inl (cf137, 6, .inl g137_129)), (qf100, .inl (cf100, 48000, .inl f100)), (qf104, .inl (cf104, 8, .inl f104)), (qf102, .inl (cf102, 2048, .inl f102)), (qf118, .inl (cf118, 2100, .inl g907_1)), (qf119, .inl (cf119, 2100, .inl g907_2)), (h0, .inr (13, z_8)), (qf128, .inl (cf128, 31, .inl g908_1))] H := hP
      replace hD : va_D A [(qf105, .inl (cf105, 8, .inl f105)), (qf137, .inl (cf137, 6, .inl g137_129)), (qf100, .inl (cf100, 48000, .inl f100)), (qf104, .inl (cf104, 8, .inl f104)), (qf102, .inl (cf102, 2048, .inl f102)), (qf118, .inl (cf118, 2100, .inl g907_1)), (qf119, .inl (cf119, 2100, .inl g907_2)), (h0, .inr (13, z_8)), (qf128, .inl (cf128, 31, .inl g908_1))] := hD
      replace hK : va_K (dC, dI) vwCl [(cf105, .int), (cf137, .int), (cf100, .int), (cf104, .int), (cf102, .int), (cf118, .int), (cf119, .int), (cf128, .int)] s := hK
      obtain ⟨hwa_8, hln_8, hre_8, hch_8_131⟩ := hw
      have hfk_8_98 : z_8[98]? = some (.int v98) := (hre_8 98 (by decide)).trans (hfk_7_98)
      have hfk_8_100 : z_8[100]? = some (.ref qf100) := (hre_8 100 (by decide)).trans (hfk_7_100)
      have hfk_8_102 : z_8[102]? = some (.ref qf102) := (hre_8 102 (by decide)).trans (hfk_7_102)
      have hfk_8_104 : z_8[104]? = some (.ref qf104) := (hre_8 104 (by decide)).trans (hfk_7_104)
      have hfk_8_105 : z_8[105]? = some (.ref qf105) := (hre_8 105 (by decide)).trans (hfk_7_105)
      have hfk_8_117 : z_8[117]? = some (.int u7_3) := (hre_8 117 (by decide)).trans (hch_7_117)
      have hfk_8_118 : z_8[118]? = some (.ref qf118) := (hre_8 118 (by decide)).trans (hfk_7_118)
      have hfk_8_119 : z_8[119]? = some (.ref qf119) := (hre_8 119 (by decide)).trans (hfk_7_119)
      have hfk_8_120 : z_8[120]? = some (.int u7_4) := (hre_8 120 (by decide)).trans (hch_7_120)
      have hfk_8_128 : z_8[128]? = some (.ref qf128) := (hre_8 128 (by decide)).trans (hfk_7_128)
      have hfk_8_130 : z_8[130]? = some (.int v130) := (hre_8 130 (by decide)).trans (hfk_7_130)
      have hfk_8_132 : z_8[132]? = some (.int v132) := (hre_8 132 (by decide)).trans (hfk_7_132)
      have hfk_8_137 : z_8[137]? = some (.ref qf137) := (hre_8 137 (by decide)).trans (hfk_7_137)
      have hrq_8 : ∀ j : Nat, j ≠ 117 → j ≠ 120 → j ≠ 131 → z_8[j]? = zs[j]? := fun j g117 g120 g131 => (hre_8 j g131).trans (hrq_7 j g117 g120 g131)
      obtain ⟨rfl, hz_8⟩ := hwa_8
      rcases hz_8 with rfl | rfl
      · rw [if_pos rfl] at hsp
        refine lv_if_eq (tgt := 156) hx hb dX13_calls_149 (by decide) (fun c_21 => ?_) (fun c_21 => (show False by revert c_21; decide).elim)
        refine lv_iconst (v := 0) hx hb dX13_calls_156 (by decide) ?_
        have hr0 := Option.some.inj hsp
        clear hsp
        obtain ⟨hq0, hr1⟩ := Prod.mk.inj hr0
        clear hr0
        obtain ⟨hq1, hr2⟩ := Prod.mk.inj hr1
        clear hr1
        obtain ⟨hq2, hr3⟩ := Prod.mk.inj hr2
        clear hr2
        obtain ⟨hq3, hr4⟩ := Prod.mk.inj hr3
        clear hr3
        obtain ⟨hq4, hr5⟩ := Prod.mk.inj hr4
        clear hr4
        obtain ⟨hq5, hr6⟩ := Prod.mk.inj hr5
        clear hr5
        obtain ⟨hq6, hr7⟩ := Prod.mk.inj hr6
        clear hr6
        subst hq0
        subst hq1
        subst hq2
        subst hq3
        subst hq4
        subst hq5
        subst hq6
        subst hr7
        have hP9 := hP.sub (ws' := [(h0, .inr (13, z_8)), (qf102, .inl (cf102, 2048, .inl f102)), (qf100, .inl (cf100, 48000, .inl f100)), (qf104, .inl (cf104, 8, .inl f104)), (qf118, .inl (cf118, 2100, .inl g907_1)), (qf119, .inl (cf119, 2100, .inl g907_2)), (qf128, .inl (cf128, 31, .inl g908_1)), (qf105, .inl (cf105, 8, .inl f105)), (qf137, .inl (cf137, 6, .inl g137_129))]) [7, 4, 2, 3, 5, 6, 8, 0, 1] rfl
        have hD9 := hD.sub (ws' := [(h0, .inr (13, z_8)), (qf102, .inl (cf102, 2048, .inl f102)), (qf100, .inl (cf100, 48000, .inl f100)), (qf104, .inl (cf104, 8, .inl f104)), (qf118, .inl (cf118, 2100, .inl g907_1)), (qf119, .inl (cf119, 2100, .inl g907_2)), (qf128, .inl (cf128, 31, .inl g908_1)), (qf105, .inl (cf105, 8, .inl f105)), (qf137, .inl (cf137, 6, .inl g137_129))]) [7, 4, 2, 3, 5, 6, 8, 0, 1] (by decide) rfl
        have hK9 := hK.sub (tys' := [(cf102, .int), (cf100, .int), (cf104, .int), (cf118, .int), (cf119, .int), (cf128, .int), (cf105, .int), (cf137, .int)]) [4, 2, 3, 5, 6, 7, 0, 1] rfl
        exact W.zret hx hb hr (by decide) (fun t ht hW => ⟨⟨(0), (z_8), rfl, ⟨⟨rfl, Or.inl rfl⟩, hln_8, hrq_8, hfk_8_117, hfk_8_120, hch_8_131⟩, by rw [ht]; exact hP9, va_K.moved hW.alike hK9, hD9⟩, hS.F ht⟩) hS.2.2 dX13_calls_157
      · rw [if_neg (by decide)] at hsp
        refine lv_if_eq (tgt := 156) hx hb dX13_calls_149 (by decide) (fun c_22 => (show False by revert c_22; decide).elim) (fun c_22 => ?_)
        refine lv_iconst (v := 1) hx hb dX13_calls_152 (by decide) ?_
        refine lv_goto (tgt := 157) hx hb dX13_calls_153 (by decide) ?_
        have hr0 := Option.some.inj hsp
        clear hsp
        obtain ⟨hq0, hr1⟩ := Prod.mk.inj hr0
        clear hr0
        obtain ⟨hq1, hr2⟩ := Prod.mk.inj hr1
        clear hr1
        obtain ⟨hq2, hr3⟩ := Prod.mk.inj hr2
        clear hr2
        obtain ⟨hq3, hr4⟩ := Prod.mk.inj hr3
        clear hr3
        obtain ⟨hq4, hr5⟩ := Prod.mk.inj hr4
        clear hr4
        obtain ⟨hq5, hr6⟩ := Prod.mk.inj hr5
        clear hr5
        obtain ⟨hq6, hr7⟩ := Prod.mk.inj hr6
        clear hr6
        subst hq0
        subst hq1
        subst hq2
        subst hq3
        subst hq4
        subst hq5
        subst hq6
        subst hr7
        have hP9 := hP.sub (ws' := [(h0, .inr (13, z_8)), (qf102, .inl (cf102, 2048, .inl f102)), (qf100, .inl (cf100, 48000, .inl f100)), (qf104, .inl (cf104, 8, .inl f104)), (qf118, .inl (cf118, 2100, .inl g907_1)), (qf119, .inl (cf119, 2100, .inl g907_2)), (qf128, .inl (cf128, 31, .inl g908_1)), (qf105, .inl (cf105, 8, .inl f105)), (qf137, .inl (cf137, 6, .inl g137_129))]) [7, 4, 2, 3, 5, 6, 8, 0, 1] rfl
        have hD9 := hD.sub (ws' := [(h0, .inr (13, z_8)), (qf102, .inl (cf102, 2048, .inl f102)), (qf100, .inl (cf100, 48000, .inl f100)), (qf104, .inl (cf104, 8, .inl f104)), (qf118, .inl (cf118, 2100, .inl g907_1)), (qf119, .inl (cf119, 2100, .inl g907_2)), (qf128, .inl (cf128, 31, .inl g908_1)), (qf105, .inl (cf105, 8, .inl f105)), (qf137, .inl (cf137, 6, .inl g137_129))]) [7, 4, 2, 3, 5, 6, 8, 0, 1] (by decide) rfl
        have hK9 := hK.sub (tys' := [(cf102, .int), (cf100, .int), (cf104, .int), (cf118, .int), (cf119, .int), (cf128, .int), (cf105, .int), (cf137, .int)]) [4, 2, 3, 5, 6, 7, 0, 1] rfl
        exact W.zret hx hb hr (by decide) (fun t ht hW => ⟨⟨(1), (z_8), rfl, ⟨⟨rfl, Or.inr rfl⟩, hln_8, hrq_8, hfk_8_117, hfk_8_120, hch_8_131⟩, by rw [ht]; exact hP9, va_K.moved hW.alike hK9, hD9⟩, hS.F ht⟩) hS.2.2 dX13_calls_157
  intro hj_129
  refine lv_sipush (v := 6000) hx hb dX13_calls_0 (by decide) ?_
  refine lv_aload_n hx hb dX13_calls_3 rfl (lv_at hl 0 rfl) ?_
  refine va_get (D := (dC, dI)) (ci := 13) (v := .int v132) (C := RX13) (T := TX13) (N := 155) hx hb hts uV_h9_X13 hown hK hP 0 rfl rfl 132 (by decide) (hts (.fieldLink RX13 932 "ClassMillModel" "inClass" "I") mw_h9_533) (fun _ h9 => h9) hf132 dX13_calls_4 ?_
  refine lv_imul hx hb dX13_calls_7 ?_
  refine lv_aload_n hx hb dX13_calls_8 rfl (lv_at hl 0 rfl) ?_
  refine va_get (D := (dC, dI)) (ci := 13) (v := .ref qf102) (C := RX13) (T := TX13) (N := 155) hx hb hts uV_h9_X13 hown hK hP 0 rfl rfl 102 (by decide) (hts (.fieldLink RX13 215 "ClassMillModel" "constantAt" "[I") mw_h9_267) (fun _ h9 => h9) hf102 dX13_calls_9 ?_
  refine lv_sipush (v := 256) hx hb dX13_calls_12 (by decide) ?_
  refine lv_aload_n hx hb dX13_calls_15 rfl (lv_at hl 0 rfl) ?_
  refine va_get (D := (dC, dI)) (ci := 13) (v := .int v132) (C := RX13) (T := TX13) (N := 155) hx hb hts uV_h9_X13 hown hK hP 0 rfl rfl 132 (by decide) (hts (.fieldLink RX13 932 "ClassMillModel" "inClass" "I") mw_h9_533) (fun _ h9 => h9) hf132 dX13_calls_16 ?_
  refine lv_imul hx hb dX13_calls_19 ?_
  refine lv_aload_n hx hb dX13_calls_20 rfl (lv_at hl 0 rfl) ?_
  refine lv_iload_n hx hb dX13_calls_21 rfl (lv_at hl 1 rfl) ?_
  refine lv_iconst (v := 2) hx hb dX13_calls_22 (by decide) ?_
  obtain ⟨u1_0, hu_1, hsp⟩ := ox_bind hsp
  try dsimp only at hsp
  have hPc := hP.sub (ws' := [(h0, .inr (13, zs)), (qf102, .inl (cf102, 2048, .inl f102)), (qf100, .inl (cf100, 48000, .inl f100))]) [0, 1, 2] rfl
  have hDc := hD.sub (ws' := [(h0, .inr (13, zs)), (qf102, .inl (cf102, 2048, .inl f102)), (qf100, .inl (cf100, 48000, .inl f100))]) [0, 1, 2] (by decide) rfl
  have hKc := hK.sub (tys' := [(cf102, .int), (cf100, .int)]) [0, 1] rfl
  have hFc := va_free (wc := [(h0, .inr (13, zs)), (qf102, .inl (cf102, 2048, .inl f102)), (qf100, .inl (cf100, 48000, .inl f100))]) hD hS hA [0, 1, 2] rfl
  refine va_calli (va_runV (As := [.int a1, .int 2]) (rest := [.int (256 * v132), .ref qf102, .int (6000 * v132)]) ⟨hx, hb, hml, hown, hts⟩ (tm_partOf l dC dI H.size h0 zs a1 2 qf100 qf102 v132 cf102 f102 cf100 f100 nf u1_0 hlen hf100 hf102 hf132 hu_1) (cwV 2 hts gv_h9_72 rfl rfl rfl (by decide +kernel) ⟨Nat.le_of_ble_eq_true rfl, Nat.le_of_ble_eq_true rfl⟩) ⟨fun a U g mk q => by obtain ⟨q0, q1, qP, qK, qD⟩ := q; exact ⟨q0, q1, qP, va_K.moved (u := U) (U := U.calling g mk a) (Vm.Alike.refl U.vm) qK, qD⟩, va_recv hKc hPc (ci := 13) (q0 := 0) rfl rfl, fun U hU hW => ⟨rfl, by rw [hU], by rw [hU]; exact hPc, va_K.moved hW.alike hKc, hDc.weaken (fun _ _ _ _ => trivial)⟩⟩ rfl rfl hl.1 rfl (lv_room (Nat.le_of_ble_eq_true rfl)) dX13_calls_23 ⟨Nat.le_of_ble_eq_true rfl, Nat.le_of_ble_eq_true rfl⟩) hS (fun q _ h => hFc q h) hFc ?_
  clear hS
  intro r_1 u t H1 locs ht hvm hw hB hz1 hk1 hS
  obtain ⟨z_1, rfl⟩ : ∃ z, z = u := ⟨_, rfl⟩
  obtain ⟨hP1, hK1, hD1⟩ := hB
  rw [ht] at hP1
  have hK1 := va_K.moved hvm.symm hK1
  try dsimp only at hw
  have hPD := va_join (wr := [(qf104, .inl (cf104, 8, .inl f104)), (qf118, .inl (cf118, 2100, .inl f118)), (qf119, .inl (cf119, 2100, .inl f119)), (qf128, .inl (cf128, 31, .inl f128)), (qf105, .inl (cf105, 8, .inl f105)), (qf137, .inl (cf137, 6, .inl f137))]) (w1 := [(h0, .inr (13, z_1)), (qf102, .inl (cf102, 2048, .inl f102)), (qf100, .inl (cf100, 48000, .inl f100))]) hP hD [0, 1, 2] [3, 4, 5, 6, 7, 8] rfl rfl (by decide) (by decide) hk1 hFc hP1 hD1
  clear hP hD
  obtain ⟨hP, hD⟩ := hPD
  replace hK := (hK.sub (tys' := [(cf104, .int), (cf118, .int), (cf119, .int), (cf128, .int), (cf105, .int), (cf137, .int)]) [2, 3, 4, 5, 6, 7] rfl).app hK1
  clear hPc hDc hKc hFc hP1 hK1 hD1 hz1 hk1 ht hvm
  generalize H1 = H at hP hS ⊢
  replace hP : va_P (dC, dI) vwCl [(qf104, .inl (cf104, 8, .inl f104)), (qf118, .inl (cf118, 2100, .inl f118)), (qf119, .inl (cf119, 2100, .inl f119)), (qf128, .inl (cf128, 31, .inl f128)), (qf105, .inl (cf105, 8, .inl f105)), (qf137, .inl (cf137, 6, .inl f137)), (h0, .inr (13, z_1)), (qf102, .inl (cf102, 2048, .inl f102)), (qf100, .inl (cf100, 48000, .inl f100))] H := hP
  replace hD : va_D A [(qf104, .inl (cf104, 8, .inl f104)), (qf118, .inl (cf118, 2100, .inl f118)), (qf119, .inl (cf119, 2100, .inl f119)), (qf128, .inl (cf128, 31, .inl f128)), (qf105, .inl (cf105, 8, .inl f105)), (qf137, .inl (cf137, 6, .inl f137)), (h0, .inr (13, z_1)), (qf102, .inl (cf102, 2048, .inl f102)), (qf100, .inl (cf100, 48000, .inl f100))] := hD
  replace hK : va_K (dC, dI) vwCl [(cf104, .int), (cf118, .int), (cf119, .int), (cf128, .int), (cf105, .int), (cf137, .int), (cf102, .int), (cf100, .int)] s := hK
  obtain ⟨hwa_1, hln_1, hre_1⟩ := hw
  have hfk_1_98 : z_1[98]? = some (.int v98) := (hre_1 98 ).trans (hf98)
  have hfk_1_100 : z_1[100]? = some (.ref qf100) := (hre_1 100 ).trans (hf100)
  have hfk_1_102 : z_1[102]? = some (.ref qf102) := (hre_1 102 ).trans (hf102)
  have hfk_1_104 : z_1[104]? = some (.ref qf104) := (hre_1 104 ).trans (hf104)
  have hfk_1_105 : z_1[105]? = some (.ref qf105) := (hre_1 105 ).trans (hf105)
  have hfk_1_117 : z_1[117]? = some (.int v117) := (hre_1 117 ).trans (hf117)
  have hfk_1_118 : z_1[118]? = some (.ref qf118) := (hre_1 118 ).trans (hf118)
  have hfk_1_119 : z_1[119]? = some (.ref qf119) := (hre_1 119 ).trans (hf119)
  have hfk_1_120 : z_1[120]? = some (.int v120) := (hre_1 120 ).trans (hf120)
  have hfk_1_128 : z_1[128]? = some (.ref qf128) := (hre_1 128 ).trans (hf128)
  have hfk_1_130 : z_1[130]? = some (.int v130) := (hre_1 130 ).trans (hf130)
  have hfk_1_131 : z_1[131]? = some (.int v131) := (hre_1 131 ).trans (hf131)
  have hfk_1_132 : z_1[132]? = some (.int v132) := (hre_1 132 ).trans (hf132)
  have hfk_1_137 : z_1[137]? = some (.ref qf137) := (hre_1 137 ).trans (hf137)
  have hrq_1 : ∀ j : Nat, j ≠ 117 → j ≠ 120 → j ≠ 131 → z_1[j]? = zs[j]? := fun j g117 g120 g131 => (hre_1 j ).trans (hrs0 j g117 g120 g131)
  obtain rfl := hwa_1
  refine lv_iadd hx hb dX13_calls_26 ?_
  obtain ⟨hi_2, hsp⟩ := ox_in hsp
  refine va_iald hx hb hK hP 7 6 rfl rfl (i := ((256 * v132) + u1_0)) hi_2 dX13_calls_27 ?_
  refine lv_iadd hx hb dX13_calls_28 ?_
  refine lv_iconst (v := 3) hx hb dX13_calls_29 (by decide) ?_
  refine lv_iadd hx hb dX13_calls_30 ?_
  refine lv_istore_n (lv' := [(3, .int (((6000 * v132) + (f102 (((256 * v132) + u1_0) : Int32).toNatClampNeg)) + 3)), (0, .ref h0), (1, .int a1), (2, .int a2)]) hx hb dX13_calls_31 rfl hl (by decide) rfl (fun ls hl => ?_)
  refine lv_iconst (v := 0) hx hb dX13_calls_32 (by decide) ?_
  refine lv_istore (lv' := [(4, .int 0), (3, .int (((6000 * v132) + (f102 (((256 * v132) + u1_0) : Int32).toNatClampNeg)) + 3)), (0, .ref h0), (1, .int a1), (2, .int a2)]) hx hb dX13_calls_33 hl (by decide) rfl (fun ls hl => ?_)
  replace hl : lv_has ls 6 [(4, .int 0), (3, .int (((6000 * v132) + (f102 (((256 * v132) + u1_0) : Int32).toNatClampNeg)) + 3)), (0, .ref h0), (1, .int a1), (2, .int a2)] := lv_sub hl [0, 1, 2, 3, 4] rfl
  replace hP := hP.sub (ws' := [(h0, .inr (13, z_1)), (qf102, .inl (cf102, 2048, .inl f102)), (qf100, .inl (cf100, 48000, .inl f100)), (qf104, .inl (cf104, 8, .inl f104)), (qf118, .inl (cf118, 2100, .inl f118)), (qf119, .inl (cf119, 2100, .inl f119)), (qf128, .inl (cf128, 31, .inl f128)), (qf105, .inl (cf105, 8, .inl f105)), (qf137, .inl (cf137, 6, .inl f137))]) [6, 7, 8, 0, 1, 2, 3, 4, 5] rfl
  replace hD := hD.sub (ws' := [(h0, .inr (13, z_1)), (qf102, .inl (cf102, 2048, .inl f102)), (qf100, .inl (cf100, 48000, .inl f100)), (qf104, .inl (cf104, 8, .inl f104)), (qf118, .inl (cf118, 2100, .inl f118)), (qf119, .inl (cf119, 2100, .inl f119)), (qf128, .inl (cf128, 31, .inl f128)), (qf105, .inl (cf105, 8, .inl f105)), (qf137, .inl (cf137, 6, .inl f137))]) [6, 7, 8, 0, 1, 2, 3, 4, 5] (by decide) rfl
  replace hK := hK.sub (tys' := [(cf102, .int), (cf100, .int), (cf104, .int), (cf118, .int), (cf119, .int), (cf128, .int), (cf105, .int), (cf137, .int)]) [6, 7, 0, 1, 2, 3, 4, 5] rfl
  obtain ⟨n_35, hn_35⟩ : ∃ z : Nat, z = nf := ⟨_, rfl⟩
  obtain ⟨l1_35, el1_35⟩ : ∃ z : Int32, z = a1 := ⟨_, rfl⟩
  obtain ⟨l2_35, el2_35⟩ : ∃ z : Int32, z = a2 := ⟨_, rfl⟩
  obtain ⟨l3_35, el3_35⟩ : ∃ z : Int32, z = (((6000 * v132) + (f102 (((256 * v132) + u1_0) : Int32).toNatClampNeg)) + 3) := ⟨_, rfl⟩
  obtain ⟨l4_35, el4_35⟩ : ∃ z : Int32, z = 0 := ⟨_, rfl⟩
  obtain ⟨g118_35, eg118_35⟩ : ∃ z : Nat → Int32, z = f118 := ⟨_, rfl⟩
  obtain ⟨g119_35, eg119_35⟩ : ∃ z : Nat → Int32, z = f119 := ⟨_, rfl⟩
  obtain ⟨g128_35, eg128_35⟩ : ∃ z : Nat → Int32, z = f128 := ⟨_, rfl⟩
  obtain ⟨g137_35, eg137_35⟩ : ∃ z : Nat → Int32, z = f137 := ⟨_, rfl⟩
  obtain ⟨x117_35, ex117_35⟩ : ∃ z : Int32, z = v117 := ⟨_, rfl⟩
  obtain ⟨x120_35, ex120_35⟩ : ∃ z : Int32, z = v120 := ⟨_, rfl⟩
  obtain ⟨x131_35, ex131_35⟩ : ∃ z : Int32, z = v131 := ⟨_, rfl⟩
  replace hsp : lp_vm_calls_35 nf n_35 a1 a2 v98 v117 v120 v130 v131 v132 f102 f100 f104 f118 f119 f128 f105 f137 nS477 fS477 l1_35 l2_35 l3_35 l4_35 g118_35 g119_35 g128_35 g137_35 x117_35 x120_35 x131_35 = some (r0, o118, o119, o128, o137, w117, w120, w131) := by rw [hn_35, el1_35, el2_35, el3_35, el4_35, eg118_35, eg119_35, eg128_35, eg137_35, ex117_35, ex120_35, ex131_35]; exact hsp
  replace hl : lv_has ls 6 [(4, .int l4_35), (3, .int l3_35), (0, .ref h0), (1, .int l1_35), (2, .int l2_35)] := by rw [el1_35, el2_35, el3_35, el4_35]; exact hl
  obtain ⟨z35, ez35⟩ : ∃ z : List Value, z = z_1 := ⟨_, rfl⟩
  have hfh_35_98 : z35[98]? = some (.int v98) := by rw [ez35]; exact hfk_1_98
  have hfh_35_100 : z35[100]? = some (.ref qf100) := by rw [ez35]; exact hfk_1_100
  have hfh_35_102 : z35[102]? = some (.ref qf102) := by rw [ez35]; exact hfk_1_102
  have hfh_35_104 : z35[104]? = some (.ref qf104) := by rw [ez35]; exact hfk_1_104
  have hfh_35_105 : z35[105]? = some (.ref qf105) := by rw [ez35]; exact hfk_1_105
  have hfh_35_117 : z35[117]? = some (.int x117_35) := by rw [ez35, ex117_35]; exact hfk_1_117
  have hfh_35_118 : z35[118]? = some (.ref qf118) := by rw [ez35]; exact hfk_1_118
  have hfh_35_119 : z35[119]? = some (.ref qf119) := by rw [ez35]; exact hfk_1_119
  have hfh_35_120 : z35[120]? = some (.int x120_35) := by rw [ez35, ex120_35]; exact hfk_1_120
  have hfh_35_128 : z35[128]? = some (.ref qf128) := by rw [ez35]; exact hfk_1_128
  have hfh_35_130 : z35[130]? = some (.int v130) := by rw [ez35]; exact hfk_1_130
  have hfh_35_131 : z35[131]? = some (.int x131_35) := by rw [ez35, ex131_35]; exact hfk_1_131
  have hfh_35_132 : z35[132]? = some (.int v132) := by rw [ez35]; exact hfk_1_132
  have hfh_35_137 : z35[137]? = some (.ref qf137) := by rw [ez35]; exact hfk_1_137
  have hlh_35 : z35.length = 155 := by rw [ez35]; exact hln_1
  have hrh_35 : ∀ j : Nat, j ≠ 117 → j ≠ 120 → j ≠ 131 → z35[j]? = zs[j]? := by rw [ez35]; exact hrq_1
  replace hP : va_P (dC, dI) vwCl [(h0, .inr (13, z35)), (qf102, .inl (cf102, 2048, .inl f102)), (qf100, .inl (cf100, 48000, .inl f100)), (qf104, .inl (cf104, 8, .inl f104)), (qf118, .inl (cf118, 2100, .inl g118_35)), (qf119, .inl (cf119, 2100, .inl g119_35)), (qf128, .inl (cf128, 31, .inl g128_35)), (qf105, .inl (cf105, 8, .inl f105)), (qf137, .inl (cf137, 6, .inl g137_35))] H := by rw [ez35, eg118_35, eg119_35, eg128_35, eg137_35]; exact hP
  replace hD : va_D A [(h0, .inr (13, z35)), (qf102, .inl (cf102, 2048, .inl f102)), (qf100, .inl (cf100, 48000, .inl f100)), (qf104, .inl (cf104, 8, .inl f104)), (qf118, .inl (cf118, 2100, .inl g118_35)), (qf119, .inl (cf119, 2100, .inl g119_35)), (qf128, .inl (cf128, 31, .inl g128_35)), (qf105, .inl (cf105, 8, .inl f105)), (qf137, .inl (cf137, 6, .inl g137_35))] := by rw [ez35, eg118_35, eg119_35, eg128_35, eg137_35]; exact hD
  clear hn_35 ez35 el1_35 el2_35 el3_35 el4_35 eg118_35 eg119_35 eg128_35 eg137_35 ex117_35 ex120_35 ex131_35
  try clear hlo
  try clear hH
  revert hsp
  revert hP
  revert hD
  revert hS
  revert hl
  revert hrh_35
  revert hlh_35
  revert hfh_35_137
  revert hfh_35_132
  revert hfh_35_131
  revert hfh_35_130
  revert hfh_35_128
  revert hfh_35_120
  revert hfh_35_119
  revert hfh_35_118
  revert hfh_35_117
  revert hfh_35_105
  revert hfh_35_104
  revert hfh_35_102
  revert hfh_35_100
  revert hfh_35_98
  revert x131_35
  revert x120_35
  revert x117_35
  revert g137_35
  revert g128_35
  revert g119_35
  revert g118_35
  revert l4_35
  revert l3_35
  revert l2_35
  revert l1_35
  revert z35
  revert ls
  revert locs
  revert H
  induction n_35 with
  | zero => intro H locs ls z35 l1_35 l2_35 l3_35 l4_35 g118_35 g119_35 g128_35 g137_35 x117_35 x120_35 x131_35 hfh_35_98 hfh_35_100 hfh_35_102 hfh_35_104 hfh_35_105 hfh_35_117 hfh_35_118 hfh_35_119 hfh_35_120 hfh_35_128 hfh_35_130 hfh_35_131 hfh_35_132 hfh_35_137 hlh_35 hrh_35 hl hS hD hP hsp; unfold lp_vm_calls_35 at hsp; cases hsp
  | succ n_35 ih_35 =>
    intro H locs ls z35 l1_35 l2_35 l3_35 l4_35 g118_35 g119_35 g128_35 g137_35 x117_35 x120_35 x131_35 hfh_35_98 hfh_35_100 hfh_35_102 hfh_35_104 hfh_35_105 hfh_35_117 hfh_35_118 hfh_35_119 hfh_35_120 hfh_35_128 hfh_35_130 hfh_35_131 hfh_35_132 hfh_35_137 hlh_35 hrh_35 hl hS hD hP hsp
    unfold lp_vm_calls_35 at hsp
    try dsimp only at hsp
    refine lv_aload_n hx hb dX13_calls_35 rfl (lv_at hl 2 rfl) ?_
    refine va_get (D := (dC, dI)) (ci := 13) (v := .ref qf100) (C := RX13) (T := TX13) (N := 155) hx hb hts uV_h9_X13 hown hK hP 0 rfl rfl 100 (by decide) (hts (.fieldLink RX13 209 "ClassMillModel" "bytes" "[I") mw_h9_266) (fun _ h9 => h9) hfh_35_100 dX13_calls_36 ?_
    refine lv_iload_n hx hb dX13_calls_39 rfl (lv_at hl 1 rfl) ?_
    obtain ⟨hi_3, hsp⟩ := ox_in hsp
    refine va_iald hx hb hK hP 2 1 rfl rfl (i := l3_35) hi_3 dX13_calls_40 ?_
    refine lv_bipush (v := 41) hx hb dX13_calls_41 (by decide) ?_
    refine lv_icmp_eq (tgt := 69) hx hb dX13_calls_43 (by decide) (fun c_4 => ?_) (fun c_4 => ?_)
    · rw [if_pos c_4] at hsp
      refine lv_iload hx hb dX13_calls_69 (lv_at hl 0 rfl) ?_
      refine lv_iconst (v := 1) hx hb dX13_calls_71 (by decide) ?_
      refine lv_isub hx hb dX13_calls_72 ?_
      refine lv_istore (lv' := [(5, .int (l4_35 - 1)), (4, .int l4_35), (3, .int l3_35), (0, .ref h0), (1, .int l1_35), (2, .int l2_35)]) hx hb dX13_calls_73 hl (by decide) rfl (fun ls hl => ?_)
      replace hl : lv_has ls 6 [(5, .int (l4_35 - 1)), (3, .int l3_35), (0, .ref h0), (1, .int l1_35), (2, .int l2_35)] := lv_sub hl [0, 2, 3, 4, 5] rfl
      replace hP := hP.sub (ws' := [(h0, .inr (13, z35)), (qf102, .inl (cf102, 2048, .inl f102)), (qf100, .inl (cf100, 48000, .inl f100)), (qf104, .inl (cf104, 8, .inl f104)), (qf118, .inl (cf118, 2100, .inl g118_35)), (qf119, .inl (cf119, 2100, .inl g119_35)), (qf128, .inl (cf128, 31, .inl g128_35)), (qf105, .inl (cf105, 8, .inl f105)), (qf137, .inl (cf137, 6, .inl g137_35))]) [0, 1, 2, 3, 4, 5, 6, 7, 8] rfl
      replace hD := hD.sub (ws' := [(h0, .inr (13, z35)), (qf102, .inl (cf102, 2048, .inl f102)), (qf100, .inl (cf100, 48000, .inl f100)), (qf104, .inl (cf104, 8, .inl f104)), (qf118, .inl (cf118, 2100, .inl g118_35)), (qf119, .inl (cf119, 2100, .inl g119_35)), (qf128, .inl (cf128, 31, .inl g128_35)), (qf105, .inl (cf105, 8, .inl f105)), (qf137, .inl (cf137, 6, .inl g137_35))]) [0, 1, 2, 3, 4, 5, 6, 7, 8] (by decide) rfl
      replace hK := hK.sub (tys' := [(cf102, .int), (cf100, .int), (cf104, .int), (cf118, .int), (cf119, .int), (cf128, .int), (cf105, .int), (cf137, .int)]) [0, 1, 2, 3, 4, 5, 6, 7] rfl
      obtain ⟨n_75, hn_75⟩ : ∃ z : Nat, z = nf := ⟨_, rfl⟩
      obtain ⟨l1_75, el1_75⟩ : ∃ z : Int32, z = l1_35 := ⟨_, rfl⟩
      obtain ⟨l2_75, el2_75⟩ : ∃ z : Int32, z = l2_35 := ⟨_, rfl⟩
      obtain ⟨l3_75, el3_75⟩ : ∃ z : Int32, z = l3_35 := ⟨_, rfl⟩
      obtain ⟨l5_75, el5_75⟩ : ∃ z : Int32, z = (l4_35 - 1) := ⟨_, rfl⟩
      obtain ⟨g118_75, eg118_75⟩ : ∃ z : Nat → Int32, z = g118_35 := ⟨_, rfl⟩
      obtain ⟨g119_75, eg119_75⟩ : ∃ z : Nat → Int32, z = g119_35 := ⟨_, rfl⟩
      obtain ⟨g128_75, eg128_75⟩ : ∃ z : Nat → Int32, z = g128_35 := ⟨_, rfl⟩
      obtain ⟨g137_75, eg137_75⟩ : ∃ z : Nat → Int32, z = g137_35 := ⟨_, rfl⟩
      obtain ⟨x117_75, ex117_75⟩ : ∃ z : Int32, z = x117_35 := ⟨_, rfl⟩
      obtain ⟨x120_75, ex120_75⟩ : ∃ z : Int32, z = x120_35 := ⟨_, rfl⟩
      obtain ⟨x131_75, ex131_75⟩ : ∃ z : Int32, z = x131_35 := ⟨_, rfl⟩
      replace hsp : lp_vm_calls_75 nf n_75 a1 a2 v98 v117 v120 v130 v131 v132 f102 f100 f104 f118 f119 f128 f105 f137 nS477 fS477 l1_75 l2_75 l3_75 l5_75 g118_75 g119_75 g128_75 g137_75 x117_75 x120_75 x131_75 = some (r0, o118, o119, o128, o137, w117, w120, w131) := by rw [hn_75, el1_75, el2_75, el3_75, el5_75, eg118_75, eg119_75, eg128_75, eg137_75, ex117_75, ex120_75, ex131_75]; exact hsp
      replace hl : lv_has ls 6 [(5, .int l5_75), (3, .int l3_75), (0, .ref h0), (1, .int l1_75), (2, .int l2_75)] := by rw [el1_75, el2_75, el3_75, el5_75]; exact hl
      obtain ⟨z75, ez75⟩ : ∃ z : List Value, z = z35 := ⟨_, rfl⟩
      have hfh_75_98 : z75[98]? = some (.int v98) := by rw [ez75]; exact hfh_35_98
      have hfh_75_100 : z75[100]? = some (.ref qf100) := by rw [ez75]; exact hfh_35_100
      have hfh_75_102 : z75[102]? = some (.ref qf102) := by rw [ez75]; exact hfh_35_102
      have hfh_75_104 : z75[104]? = some (.ref qf104) := by rw [ez75]; exact hfh_35_104
      have hfh_75_105 : z75[105]? = some (.ref qf105) := by rw [ez75]; exact hfh_35_105
      have hfh_75_117 : z75[117]? = some (.int x117_75) := by rw [ez75, ex117_75]; exact hfh_35_117
      have hfh_75_118 : z75[118]? = some (.ref qf118) := by rw [ez75]; exact hfh_35_118
      have hfh_75_119 : z75[119]? = some (.ref qf119) := by rw [ez75]; exact hfh_35_119
      have hfh_75_120 : z75[120]? = some (.int x120_75) := by rw [ez75, ex120_75]; exact hfh_35_120
      have hfh_75_128 : z75[128]? = some (.ref qf128) := by rw [ez75]; exact hfh_35_128
      have hfh_75_130 : z75[130]? = some (.int v130) := by rw [ez75]; exact hfh_35_130
      have hfh_75_131 : z75[131]? = some (.int x131_75) := by rw [ez75, ex131_75]; exact hfh_35_131
      have hfh_75_132 : z75[132]? = some (.int v132) := by rw [ez75]; exact hfh_35_132
      have hfh_75_137 : z75[137]? = some (.ref qf137) := by rw [ez75]; exact hfh_35_137
      have hlh_75 : z75.length = 155 := by rw [ez75]; exact hlh_35
      have hrh_75 : ∀ j : Nat, j ≠ 117 → j ≠ 120 → j ≠ 131 → z75[j]? = zs[j]? := by rw [ez75]; exact hrh_35
      replace hP : va_P (dC, dI) vwCl [(h0, .inr (13, z75)), (qf102, .inl (cf102, 2048, .inl f102)), (qf100, .inl (cf100, 48000, .inl f100)), (qf104, .inl (cf104, 8, .inl f104)), (qf118, .inl (cf118, 2100, .inl g118_75)), (qf119, .inl (cf119, 2100, .inl g119_75)), (qf128, .inl (cf128, 31, .inl g128_75)), (qf105, .inl (cf105, 8, .inl f105)), (qf137, .inl (cf137, 6, .inl g137_75))] H := by rw [ez75, eg118_75, eg119_75, eg128_75, eg137_75]; exact hP
      replace hD : va_D A [(h0, .inr (13, z75)), (qf102, .inl (cf102, 2048, .inl f102)), (qf100, .inl (cf100, 48000, .inl f100)), (qf104, .inl (cf104, 8, .inl f104)), (qf118, .inl (cf118, 2100, .inl g118_75)), (qf119, .inl (cf119, 2100, .inl g119_75)), (qf128, .inl (cf128, 31, .inl g128_75)), (qf105, .inl (cf105, 8, .inl f105)), (qf137, .inl (cf137, 6, .inl g137_75))] := by rw [ez75, eg118_75, eg119_75, eg128_75, eg137_75]; exact hD
      clear hn_75 ez75 el1_75 el2_75 el3_75 el5_75 eg118_75 eg119_75 eg128_75 eg137_75 ex117_75 ex120_75 ex131_75
      try clear hlo
      try clear hH
      revert hsp
      revert hP
      revert hD
      revert hS
      revert hl
      revert hrh_75
      revert hlh_75
      revert hfh_75_137
      revert hfh_75_132
      revert hfh_75_131
      revert hfh_75_130
      revert hfh_75_128
      revert hfh_75_120
      revert hfh_75_119
      revert hfh_75_118
      revert hfh_75_117
      revert hfh_75_105
      revert hfh_75_104
      revert hfh_75_102
      revert hfh_75_100
      revert hfh_75_98
      revert x131_75
      revert x120_75
      revert x117_75
      revert g137_75
      revert g128_75
      revert g119_75
      revert g118_75
      revert l5_75
      revert l3_75
      revert l2_75
      revert l1_75
      revert z75
      revert ls
      revert locs
      revert H
      induction n_75 with
      | zero => intro H locs ls z75 l1_75 l2_75 l3_75 l5_75 g118_75 g119_75 g128_75 g137_75 x117_75 x120_75 x131_75 hfh_75_98 hfh_75_100 hfh_75_102 hfh_75_104 hfh_75_105 hfh_75_117 hfh_75_118 hfh_75_119 hfh_75_120 hfh_75_128 hfh_75_130 hfh_75_131 hfh_75_132 hfh_75_137 hlh_75 hrh_75 hl hS hD hP hsp; unfold lp_vm_calls_75 at hsp; cases hsp
      | succ n_75 ih_75 =>
        intro H locs ls z75 l1_75 l2_75 l3_75 l5_75 g118_75 g119_75 g128_75 g137_75 x117_75 x120_75 x131_75 hfh_75_98 hfh_75_100 hfh_75_102 hfh_75_104 hfh_75_105 hfh_75_117 hfh_75_118 hfh_75_119 hfh_75_120 hfh_75_128 hfh_75_130 hfh_75_131 hfh_75_132 hfh_75_137 hlh_75 hrh_75 hl hS hD hP hsp
        unfold lp_vm_calls_75 at hsp
        try dsimp only at hsp
        refine lv_iload hx hb dX13_calls_75 (lv_at hl 0 rfl) ?_
        refine lv_if_lt (tgt := 102) hx hb dX13_calls_77 (by decide) (fun c_5 => ?_) (fun c_5 => ?_)
        · rw [if_pos c_5] at hsp
          refine lv_iload_n hx hb dX13_calls_102 rfl (lv_at hl 4 rfl) ?_
          refine lv_if_ne (tgt := 129) hx hb dX13_calls_103 (by decide) (fun c_6 => ?_) (fun c_6 => ?_)
          · rw [if_neg c_6] at hsp
            exact hj_129 (H, locs, ls, z75, l3_75, g118_75, g119_75, g128_75, g137_75, x117_75, x120_75, x131_75) ⟨lv_sub hl [2, 1] rfl, hS, hD.sub (ws' := [(h0, .inr (13, z75)), (qf102, .inl (cf102, 2048, .inl f102)), (qf100, .inl (cf100, 48000, .inl f100)), (qf104, .inl (cf104, 8, .inl f104)), (qf118, .inl (cf118, 2100, .inl g118_75)), (qf119, .inl (cf119, 2100, .inl g119_75)), (qf128, .inl (cf128, 31, .inl g128_75)), (qf105, .inl (cf105, 8, .inl f105)), (qf137, .inl (cf137, 6, .inl g137_75))]) [0, 1, 2, 3, 4, 5, 6, 7, 8] (by decide) rfl, hP.sub (ws' := [(h0, .inr (13, z75)), (qf102, .inl (cf102, 2048, .inl f102)), (qf100, .inl (cf100, 48000, .inl f100)), (qf104, .inl (cf104, 8, .inl f104)), (qf118, .inl (cf118, 2100, .inl g118_75)), (qf119, .inl (cf119, 2100, .inl g119_75)), (qf128, .inl (cf128, 31, .inl g128_75)), (qf105, .inl (cf105, 8, .inl f105)), (qf137, .inl (cf137, 6, .inl g137_75))]) [0, 1, 2, 3, 4, 5, 6, 7, 8] rfl, hfh_75_98, hfh_75_100, hfh_75_102, hfh_75_104, hfh_75_105, hfh_75_117, hfh_75_118, hfh_75_119, hfh_75_120, hfh_75_128, hfh_75_130, hfh_75_131, hfh_75_132, hfh_75_137, hlh_75, hrh_75, hsp⟩
          · rw [if_pos c_6] at hsp
            refine lv_aload_n hx hb dX13_calls_106 rfl (lv_at hl 2 rfl) ?_
            refine lv_aload_n hx hb dX13_calls_107 rfl (lv_at hl 2 rfl) ?_
            refine lv_aload_n hx hb dX13_calls_108 rfl (lv_at hl 2 rfl) ?_
            refine va_get (D := (dC, dI)) (ci := 13) (v := .int v132) (C := RX13) (T := TX13) (N := 155) hx hb hts uV_h9_X13 hown hK hP 0 rfl rfl 132 (by decide) (hts (.fieldLink RX13 932 "ClassMillModel" "inClass" "I") mw_h9_533) (fun _ h9 => h9) hfh_75_132 dX13_calls_109 ?_
            refine lv_aload_n hx hb dX13_calls_112 rfl (lv_at hl 2 rfl) ?_
            refine lv_iload_n hx hb dX13_calls_113 rfl (lv_at hl 3 rfl) ?_
            refine lv_iconst (v := 0) hx hb dX13_calls_114 (by decide) ?_
            obtain ⟨u2_0, hu_2, hsp⟩ := ox_bind hsp
            try dsimp only at hsp
            have hPc := hP.sub (ws' := [(h0, .inr (13, z75)), (qf102, .inl (cf102, 2048, .inl f102)), (qf100, .inl (cf100, 48000, .inl f100))]) [0, 1, 2] rfl
            have hDc := hD.sub (ws' := [(h0, .inr (13, z75)), (qf102, .inl (cf102, 2048, .inl f102)), (qf100, .inl (cf100, 48000, .inl f100))]) [0, 1, 2] (by decide) rfl
            have hKc := hK.sub (tys' := [(cf102, .int), (cf100, .int)]) [0, 1] rfl
            have hFc := va_free (wc := [(h0, .inr (13, z75)), (qf102, .inl (cf102, 2048, .inl f102)), (qf100, .inl (cf100, 48000, .inl f100))]) hD hS hA [0, 1, 2] rfl
            refine va_calli (va_runV (As := [.int l1_75, .int 0]) (rest := [.int v132, .ref h0, .ref h0]) ⟨hx, hb, hml, hown, hts⟩ (tm_partOf l dC dI H.size h0 z75 l1_75 0 qf100 qf102 v132 cf102 f102 cf100 f100 nf u2_0 hlh_75 hfh_75_100 hfh_75_102 hfh_75_132 hu_2) (cwV 2 hts gv_h9_72 rfl rfl rfl (by decide +kernel) ⟨Nat.le_of_ble_eq_true rfl, Nat.le_of_ble_eq_true rfl⟩) ⟨fun a U g mk q => by obtain ⟨q0, q1, qP, qK, qD⟩ := q; exact ⟨q0, q1, qP, va_K.moved (u := U) (U := U.calling g mk a) (Vm.Alike.refl U.vm) qK, qD⟩, va_recv hKc hPc (ci := 13) (q0 := 0) rfl rfl, fun U hU hW => ⟨rfl, by rw [hU], by rw [hU]; exact hPc, va_K.moved hW.alike hKc, hDc.weaken (fun _ _ _ _ => trivial)⟩⟩ rfl rfl hl.1 rfl (lv_room (Nat.le_of_ble_eq_true rfl)) dX13_calls_115 ⟨Nat.le_of_ble_eq_true rfl, Nat.le_of_ble_eq_true rfl⟩) hS (fun q _ h => hFc q h) hFc ?_
            clear hS
            intro r_7 u t H1 locs ht hvm hw hB hz1 hk1 hS
            obtain ⟨z_2, rfl⟩ : ∃ z, z = u := ⟨_, rfl⟩
            obtain ⟨hP1, hK1, hD1⟩ := hB
            rw [ht] at hP1
            have hK1 := va_K.moved hvm.symm hK1
            try dsimp only at hw
            have hPD := va_join (wr := [(qf104, .inl (cf104, 8, .inl f104)), (qf118, .inl (cf118, 2100, .inl g118_75)), (qf119, .inl (cf119, 2100, .inl g119_75)), (qf128, .inl (cf128, 31, .inl g128_75)), (qf105, .inl (cf105, 8, .inl f105)), (qf137, .inl (cf137, 6, .inl g137_75))]) (w1 := [(h0, .inr (13, z_2)), (qf102, .inl (cf102, 2048, .inl f102)), (qf100, .inl (cf100, 48000, .inl f100))]) hP hD [0, 1, 2] [3, 4, 5, 6, 7, 8] rfl rfl (by decide) (by decide) hk1 hFc hP1 hD1
            clear hP hD
            obtain ⟨hP, hD⟩ := hPD
            replace hK := (hK.sub (tys' := [(cf104, .int), (cf118, .int), (cf119, .int), (cf128, .int), (cf105, .int), (cf137, .int)]) [2, 3, 4, 5, 6, 7] rfl).app hK1
            clear hPc hDc hKc hFc hP1 hK1 hD1 hz1 hk1 ht hvm
            generalize H1 = H at hP hS ⊢
            replace hP : va_P (dC, dI) vwCl [(qf104, .inl (cf104, 8, .inl f104)), (qf118, .inl (cf118, 2100, .inl g118_75)), (qf119, .inl (cf119, 2100, .inl g119_75)), (qf128, .inl (cf128, 31, .inl g128_75)), (qf105, .inl (cf105, 8, .inl f105)), (qf137, .inl (cf137, 6, .inl g137_75)), (h0, .inr (13, z_2)), (qf102, .inl (cf102, 2048, .inl f102)), (qf100, .inl (cf100, 48000, .inl f100))] H := hP
            replace hD : va_D A [(qf104, .inl (cf104, 8, .inl f104)), (qf118, .inl (cf118, 2100, .inl g118_75)), (qf119, .inl (cf119, 2100, .inl g119_75)), (qf128, .inl (cf128, 31, .inl g128_75)), (qf105, .inl (cf105, 8, .inl f105)), (qf137, .inl (cf137, 6, .inl g137_75)), (h0, .inr (13, z_2)), (qf102, .inl (cf102, 2048, .inl f102)), (qf100, .inl (cf100, 48000, .inl f100))] := hD
            replace hK : va_K (dC, dI) vwCl [(cf104, .int), (cf118, .int), (cf119, .int), (cf128, .int), (cf105, .int), (cf137, .int), (cf102, .int), (cf100, .int)] s := hK
            obtain ⟨hwa_2, hln_2, hre_2⟩ := hw
            have hfk_2_98 : z_2[98]? = some (.int v98) := (hre_2 98 ).trans (hfh_75_98)
            have hfk_2_100 : z_2[100]? = some (.ref qf100) := (hre_2 100 ).trans (hfh_75_100)
            have hfk_2_102 : z_2[102]? = some (.ref qf102) := (hre_2 102 ).trans (hfh_75_102)
            have hfk_2_104 : z_2[104]? = some (.ref qf104) := (hre_2 104 ).trans (hfh_75_104)
            have hfk_2_105 : z_2[105]? = some (.ref qf105) := (hre_2 105 ).trans (hfh_75_105)
            have hfk_2_117 : z_2[117]? = some (.int x117_75) := (hre_2 117 ).trans (hfh_75_117)
            have hfk_2_118 : z_2[118]? = some (.ref qf118) := (hre_2 118 ).trans (hfh_75_118)
            have hfk_2_119 : z_2[119]? = some (.ref qf119) := (hre_2 119 ).trans (hfh_75_119)
            have hfk_2_120 : z_2[120]? = some (.int x120_75) := (hre_2 120 ).trans (hfh_75_120)
            have hfk_2_128 : z_2[128]? = some (.ref qf128) := (hre_2 128 ).trans (hfh_75_128)
            have hfk_2_130 : z_2[130]? = some (.int v130) := (hre_2 130 ).trans (hfh_75_130)
            have hfk_2_131 : z_2[131]? = some (.int x131_75) := (hre_2 131 ).trans (hfh_75_131)
            have hfk_2_132 : z_2[132]? = some (.int v132) := (hre_2 132 ).trans (hfh_75_132)
            have hfk_2_137 : z_2[137]? = some (.ref qf137) := (hre_2 137 ).trans (hfh_75_137)
            have hrq_2 : ∀ j : Nat, j ≠ 117 → j ≠ 120 → j ≠ 131 → z_2[j]? = zs[j]? := fun j g117 g120 g131 => (hre_2 j ).trans (hrh_75 j g117 g120 g131)
            obtain rfl := hwa_2
            obtain ⟨⟨u3_0, g903_1, g903_2, u3_3, u3_4⟩, hu_3, hsp⟩ := ox_bind hsp
            try dsimp only at hsp
            have hPc := hP.sub (ws' := [(h0, .inr (13, z_2)), (qf102, .inl (cf102, 2048, .inl f102)), (qf100, .inl (cf100, 48000, .inl f100)), (qf104, .inl (cf104, 8, .inl f104)), (qf118, .inl (cf118, 2100, .inl g118_75)), (qf119, .inl (cf119, 2100, .inl g119_75))]) [6, 7, 8, 0, 1, 2] rfl
            have hDc := hD.sub (ws' := [(h0, .inr (13, z_2)), (qf102, .inl (cf102, 2048, .inl f102)), (qf100, .inl (cf100, 48000, .inl f100)), (qf104, .inl (cf104, 8, .inl f104)), (qf118, .inl (cf118, 2100, .inl g118_75)), (qf119, .inl (cf119, 2100, .inl g119_75))]) [6, 7, 8, 0, 1, 2] (by decide) rfl
            have hKc := hK.sub (tys' := [(cf102, .int), (cf100, .int), (cf104, .int), (cf118, .int), (cf119, .int)]) [6, 7, 0, 1, 2] rfl
            have hFc := va_free (wc := [(h0, .inr (13, z_2)), (qf102, .inl (cf102, 2048, .inl f102)), (qf100, .inl (cf100, 48000, .inl f100)), (qf104, .inl (cf104, 8, .inl f104)), (qf118, .inl (cf118, 2100, .inl g118_75)), (qf119, .inl (cf119, 2100, .inl g119_75))]) hD hS hA [6, 7, 8, 0, 1, 2] rfl
            refine va_calli (va_runV (As := [.int v132, .int u2_0]) (rest := [.ref h0]) ⟨hx, hb, hml, hown, hts⟩ (vm_typeOfClass l dC dI H.size h0 z_2 v132 u2_0 v98 qf100 qf102 qf104 x117_75 qf118 qf119 x120_75 cf102 f102 cf100 f100 cf104 f104 cf118 g118_75 cf119 g119_75 nS477 fS477 hS477 qS477 tS477 nf u3_0 g903_1 g903_2 u3_3 u3_4 hln_2 hfk_2_98 hfk_2_100 hfk_2_102 hfk_2_104 hfk_2_117 hfk_2_118 hfk_2_119 hfk_2_120 hu_3) (cwV 2 hts gv_h9_108 rfl rfl rfl (by decide +kernel) ⟨Nat.le_of_ble_eq_true rfl, Nat.le_of_ble_eq_true rfl⟩) ⟨fun a U g mk q => by obtain ⟨q0, q1, qP, qK, qD, qhZWS477, qhZRS477⟩ := q; exact ⟨q0, q1, qP, va_K.moved (u := U) (U := U.calling g mk a) (Vm.Alike.refl U.vm) qK, qD, pz_W.moved (u := U) (U := U.calling g mk a) (Vm.Alike.refl U.vm) qhZWS477, vk_R.same rfl qhZRS477⟩, va_recv hKc hPc (ci := 13) (q0 := 0) rfl rfl, fun U hU hW => ⟨rfl, by rw [hU], by rw [hU]; exact hPc, va_K.moved hW.alike hKc, hDc.weaken (fun _ _ _ _ => trivial), by rw [hU]; exact ((pz_W.moved hW.alike hZWS477).kept hS.2.1).narrow hFc, vk_R.warm hW hZRS477⟩⟩ rfl rfl hl.1 rfl (lv_room (Nat.le_of_ble_eq_true rfl)) dX13_calls_118 ⟨Nat.le_of_ble_eq_true rfl, Nat.le_of_ble_eq_true rfl⟩) hS (fun q _ h => hFc q h) hFc ?_
            clear hS
            intro r_8 u t H1 locs ht hvm hw hB hz1 hk1 hS
            obtain ⟨z_3, rfl⟩ : ∃ z, z = u := ⟨_, rfl⟩
            obtain ⟨hP1, hK1, hD1⟩ := hB
            rw [ht] at hP1
            have hK1 := va_K.moved hvm.symm hK1
            try dsimp only at hw
            have hPD := va_join (wr := [(qf128, .inl (cf128, 31, .inl g128_75)), (qf105, .inl (cf105, 8, .inl f105)), (qf137, .inl (cf137, 6, .inl g137_75))]) (w1 := [(h0, .inr (13, z_3)), (qf102, .inl (cf102, 2048, .inl f102)), (qf100, .inl (cf100, 48000, .inl f100)), (qf104, .inl (cf104, 8, .inl f104)), (qf118, .inl (cf118, 2100, .inl g903_1)), (qf119, .inl (cf119, 2100, .inl g903_2))]) hP hD [6, 7, 8, 0, 1, 2] [3, 4, 5] rfl rfl (by decide) (by decide) hk1 hFc hP1 hD1
            clear hP hD
            obtain ⟨hP, hD⟩ := hPD
            replace hK := (hK.sub (tys' := [(cf128, .int), (cf105, .int), (cf137, .int)]) [3, 4, 5] rfl).app hK1
            clear hPc hDc hKc hFc hP1 hK1 hD1 hz1 hk1 ht hvm
            generalize H1 = H at hP hS ⊢
            replace hP : va_P (dC, dI) vwCl [(qf128, .inl (cf128, 31, .inl g128_75)), (qf105, .inl (cf105, 8, .inl f105)), (qf137, .inl (cf137, 6, .inl g137_75)), (h0, .inr (13, z_3)), (qf102, .inl (cf102, 2048, .inl f102)), (qf100, .inl (cf100, 48000, .inl f100)), (qf104, .inl (cf104, 8, .inl f104)), (qf118, .inl (cf118, 2100, .inl g903_1)), (qf119, .inl (cf119, 2100, .inl g903_2))] H := hP
            replace hD : va_D A [(qf128, .inl (cf128, 31, .inl g128_75)), (qf105, .inl (cf105, 8, .inl f105)), (qf137, .inl (cf137, 6, .inl g137_75)), (h0, .inr (13, z_3)), (qf102, .inl (cf102, 2048, .inl f102)), (qf100, .inl (cf100, 48000, .inl f100)), (qf104, .inl (cf104, 8, .inl f104)), (qf118, .inl (cf118, 2100, .inl g903_1)), (qf119, .inl (cf119, 2100, .inl g903_2))] := hD
            replace hK : va_K (dC, dI) vwCl [(cf128, .int), (cf105, .int), (cf137, .int), (cf102, .int), (cf100, .int), (cf104, .int), (cf118, .int), (cf119, .int)] s := hK
            obtain ⟨hwa_3, hln_3, hre_3, hch_3_117, hch_3_120⟩ := hw
            have hfk_3_98 : z_3[98]? = some (.int v98) := (hre_3 98 (by decide) (by decide)).trans (hfk_2_98)
            have hfk_3_100 : z_3[100]? = some (.ref qf100) := (hre_3 100 (by decide) (by decide)).trans (hfk_2_100)
            have hfk_3_102 : z_3[102]? = some (.ref qf102) := (hre_3 102 (by decide) (by decide)).trans (hfk_2_102)
            have hfk_3_104 : z_3[104]? = some (.ref qf104) := (hre_3 104 (by decide) (by decide)).trans (hfk_2_104)
            have hfk_3_105 : z_3[105]? = some (.ref qf105) := (hre_3 105 (by decide) (by decide)).trans (hfk_2_105)
            have hfk_3_118 : z_3[118]? = some (.ref qf118) := (hre_3 118 (by decide) (by decide)).trans (hfk_2_118)
            have hfk_3_119 : z_3[119]? = some (.ref qf119) := (hre_3 119 (by decide) (by decide)).trans (hfk_2_119)
            have hfk_3_128 : z_3[128]? = some (.ref qf128) := (hre_3 128 (by decide) (by decide)).trans (hfk_2_128)
            have hfk_3_130 : z_3[130]? = some (.int v130) := (hre_3 130 (by decide) (by decide)).trans (hfk_2_130)
            have hfk_3_131 : z_3[131]? = some (.int x131_75) := (hre_3 131 (by decide) (by decide)).trans (hfk_2_131)
            have hfk_3_132 : z_3[132]? = some (.int v132) := (hre_3 132 (by decide) (by decide)).trans (hfk_2_132)
            have hfk_3_137 : z_3[137]? = some (.ref qf137) := (hre_3 137 (by decide) (by decide)).trans (hfk_2_137)
            have hrq_3 : ∀ j : Nat, j ≠ 117 → j ≠ 120 → j ≠ 131 → z_3[j]? = zs[j]? := fun j g117 g120 g131 => (hre_3 j g117 g120).trans (hrq_2 j g117 g120 g131)
            obtain rfl := hwa_3
            obtain ⟨⟨u4_0, u4_1⟩, hu_4, hsp⟩ := ox_bind hsp
            try dsimp only at hsp
            have hPc := hP.sub (ws' := [(h0, .inr (13, z_3)), (qf128, .inl (cf128, 31, .inl g128_75)), (qf105, .inl (cf105, 8, .inl f105)), (qf102, .inl (cf102, 2048, .inl f102)), (qf100, .inl (cf100, 48000, .inl f100)), (qf104, .inl (cf104, 8, .inl f104))]) [3, 0, 1, 4, 5, 6] rfl
            have hDc := hD.sub (ws' := [(h0, .inr (13, z_3)), (qf128, .inl (cf128, 31, .inl g128_75)), (qf105, .inl (cf105, 8, .inl f105)), (qf102, .inl (cf102, 2048, .inl f102)), (qf100, .inl (cf100, 48000, .inl f100)), (qf104, .inl (cf104, 8, .inl f104))]) [3, 0, 1, 4, 5, 6] (by decide) rfl
            have hKc := hK.sub (tys' := [(cf128, .int), (cf105, .int), (cf102, .int), (cf100, .int), (cf104, .int)]) [0, 1, 3, 4, 5] rfl
            have hFc := va_free (wc := [(h0, .inr (13, z_3)), (qf128, .inl (cf128, 31, .inl g128_75)), (qf105, .inl (cf105, 8, .inl f105)), (qf102, .inl (cf102, 2048, .inl f102)), (qf100, .inl (cf100, 48000, .inl f100)), (qf104, .inl (cf104, 8, .inl f104))]) hD hS hA [3, 0, 1, 4, 5, 6] rfl
            refine va_calli (va_runV (As := [.int u3_0]) (rest := []) ⟨hx, hb, hml, hown, hts⟩ (vm_pullFit l dC dI H.size h0 z_3 u3_0 v98 qf100 qf102 qf104 qf105 qf128 x131_75 cf128 g128_75 cf105 f105 cf102 f102 cf100 f100 cf104 f104 nS477 fS477 hS477 qS477 tS477 nf u4_0 u4_1 hln_3 hfk_3_98 hfk_3_100 hfk_3_102 hfk_3_104 hfk_3_105 hfk_3_128 hfk_3_131 hu_4) (cwV 1 hts gv_h9_114 rfl rfl rfl (by decide +kernel) ⟨Nat.le_of_ble_eq_true rfl, Nat.le_of_ble_eq_true rfl⟩) ⟨fun a U g mk q => by obtain ⟨q0, q1, qP, qK, qD, qhZWS477, qhZRS477⟩ := q; exact ⟨q0, q1, qP, va_K.moved (u := U) (U := U.calling g mk a) (Vm.Alike.refl U.vm) qK, qD, pz_W.moved (u := U) (U := U.calling g mk a) (Vm.Alike.refl U.vm) qhZWS477, vk_R.same rfl qhZRS477⟩, va_recv hKc hPc (ci := 13) (q0 := 0) rfl rfl, fun U hU hW => ⟨rfl, by rw [hU], by rw [hU]; exact hPc, va_K.moved hW.alike hKc, hDc.weaken (fun _ _ _ _ => trivial), by rw [hU]; exact ((pz_W.moved hW.alike hZWS477).kept hS.2.1).narrow hFc, vk_R.warm hW hZRS477⟩⟩ rfl rfl hl.1 rfl (lv_room (Nat.le_of_ble_eq_true rfl)) dX13_calls_121 ⟨Nat.le_of_ble_eq_true rfl, Nat.le_of_ble_eq_true rfl⟩) hS (fun q _ h => hFc q h) hFc ?_
            clear hS
            intro r_9 u t H1 locs ht hvm hw hB hz1 hk1 hS
            obtain ⟨z_4, rfl⟩ : ∃ z, z = u := ⟨_, rfl⟩
            obtain ⟨hP1, hK1, hD1⟩ := hB
            rw [ht] at hP1
            have hK1 := va_K.moved hvm.symm hK1
            try dsimp only at hw
            have hPD := va_join (wr := [(qf137, .inl (cf137, 6, .inl g137_75)), (qf118, .inl (cf118, 2100, .inl g903_1)), (qf119, .inl (cf119, 2100, .inl g903_2))]) (w1 := [(h0, .inr (13, z_4)), (qf128, .inl (cf128, 31, .inl g128_75)), (qf105, .inl (cf105, 8, .inl f105)), (qf102, .inl (cf102, 2048, .inl f102)), (qf100, .inl (cf100, 48000, .inl f100)), (qf104, .inl (cf104, 8, .inl f104))]) hP hD [3, 0, 1, 4, 5, 6] [2, 7, 8] rfl rfl (by decide) (by decide) hk1 hFc hP1 hD1
            clear hP hD
            obtain ⟨hP, hD⟩ := hPD
            replace hK := (hK.sub (tys' := [(cf137, .int), (cf118, .int), (cf119, .int)]) [2, 6, 7] rfl).app hK1
            clear hPc hDc hKc hFc hP1 hK1 hD1 hz1 hk1 ht hvm
            generalize H1 = H at hP hS ⊢
            replace hP : va_P (dC, dI) vwCl [(qf137, .inl (cf137, 6, .inl g137_75)), (qf118, .inl (cf118, 2100, .inl g903_1)), (qf119, .inl (cf119, 2100, .inl g903_2)), (h0, .inr (13, z_4)), (qf128, .inl (cf128, 31, .inl g128_75)), (qf105, .inl (cf105, 8, .inl f105)), (qf102, .inl (cf102, 2048, .inl f102)), (qf100, .inl (cf100, 48000, .inl f100)), (qf104, .inl (cf104, 8, .inl f104))] H := hP
            replace hD : va_D A [(qf137, .inl (cf137, 6, .inl g137_75)), (qf118, .inl (cf118, 2100, .inl g903_1)), (qf119, .inl (cf119, 2100, .inl g903_2)), (h0, .inr (13, z_4)), (qf128, .inl (cf128, 31, .inl g128_75)), (qf105, .inl (cf105, 8, .inl f105)), (qf102, .inl (cf102, 2048, .inl f102)), (qf100, .inl (cf100, 48000, .inl f100)), (qf104, .inl (cf104, 8, .inl f104))] := hD
            replace hK : va_K (dC, dI) vwCl [(cf137, .int), (cf118, .int), (cf119, .int), (cf128, .int), (cf105, .int), (cf102, .int), (cf100, .int), (cf104, .int)] s := hK
            obtain ⟨hwa_4, hln_4, hre_4, hch_4_131⟩ := hw
            have hfk_4_98 : z_4[98]? = some (.int v98) := (hre_4 98 (by decide)).trans (hfk_3_98)
            have hfk_4_100 : z_4[100]? = some (.ref qf100) := (hre_4 100 (by decide)).trans (hfk_3_100)
            have hfk_4_102 : z_4[102]? = some (.ref qf102) := (hre_4 102 (by decide)).trans (hfk_3_102)
            have hfk_4_104 : z_4[104]? = some (.ref qf104) := (hre_4 104 (by decide)).trans (hfk_3_104)
            have hfk_4_105 : z_4[105]? = some (.ref qf105) := (hre_4 105 (by decide)).trans (hfk_3_105)
            have hfk_4_117 : z_4[117]? = some (.int u3_3) := (hre_4 117 (by decide)).trans (hch_3_117)
            have hfk_4_118 : z_4[118]? = some (.ref qf118) := (hre_4 118 (by decide)).trans (hfk_3_118)
            have hfk_4_119 : z_4[119]? = some (.ref qf119) := (hre_4 119 (by decide)).trans (hfk_3_119)
            have hfk_4_120 : z_4[120]? = some (.int u3_4) := (hre_4 120 (by decide)).trans (hch_3_120)
            have hfk_4_128 : z_4[128]? = some (.ref qf128) := (hre_4 128 (by decide)).trans (hfk_3_128)
            have hfk_4_130 : z_4[130]? = some (.int v130) := (hre_4 130 (by decide)).trans (hfk_3_130)
            have hfk_4_132 : z_4[132]? = some (.int v132) := (hre_4 132 (by decide)).trans (hfk_3_132)
            have hfk_4_137 : z_4[137]? = some (.ref qf137) := (hre_4 137 (by decide)).trans (hfk_3_137)
            have hrq_4 : ∀ j : Nat, j ≠ 117 → j ≠ 120 → j ≠ 131 → z_4[j]? = zs[j]? := fun j g117 g120 g131 => (hre_4 j g131).trans (hrq_3 j g117 g120 g131)
            obtain ⟨rfl, hz_4⟩ := hwa_4
            rcases hz_4 with rfl | rfl
            · rw [if_pos rfl] at hsp
              refine lv_if_ne (tgt := 129) hx hb dX13_calls_124 (by decide) (fun c_10 => (show False by revert c_10; decide).elim) (fun c_10 => ?_)
              refine lv_iconst (v := 0) hx hb dX13_calls_127 (by decide) ?_
              have hr0 := Option.some.inj hsp
              clear hsp
              obtain ⟨hq0, hr1⟩ := Prod.mk.inj hr0
              clear hr0
              obtain ⟨hq1, hr2⟩ := Prod.mk.inj hr1
              clear hr1
              obtain ⟨hq2, hr3⟩ := Prod.mk.inj hr2
              clear hr2
              obtain ⟨hq3, hr4⟩ := Prod.mk.inj hr3
              clear hr3
              obtain ⟨hq4, hr5⟩ := Prod.mk.inj hr4
              clear hr4
              obtain ⟨hq5, hr6⟩ := Prod.mk.inj hr5
              clear hr5
              obtain ⟨hq6, hr7⟩ := Prod.mk.inj hr6
              clear hr6
              subst hq0
              subst hq1
              subst hq2
              subst hq3
              subst hq4
              subst hq5
              subst hq6
              subst hr7
              have hP9 := hP.sub (ws' := [(h0, .inr (13, z_4)), (qf102, .inl (cf102, 2048, .inl f102)), (qf100, .inl (cf100, 48000, .inl f100)), (qf104, .inl (cf104, 8, .inl f104)), (qf118, .inl (cf118, 2100, .inl g903_1)), (qf119, .inl (cf119, 2100, .inl g903_2)), (qf128, .inl (cf128, 31, .inl g128_75)), (qf105, .inl (cf105, 8, .inl f105)), (qf137, .inl (cf137, 6, .inl g137_75))]) [3, 6, 7, 8, 1, 2, 4, 5, 0] rfl
              have hD9 := hD.sub (ws' := [(h0, .inr (13, z_4)), (qf102, .inl (cf102, 2048, .inl f102)), (qf100, .inl (cf100, 48000, .inl f100)), (qf104, .inl (cf104, 8, .inl f104)), (qf118, .inl (cf118, 2100, .inl g903_1)), (qf119, .inl (cf119, 2100, .inl g903_2)), (qf128, .inl (cf128, 31, .inl g128_75)), (qf105, .inl (cf105, 8, .inl f105)), (qf137, .inl (cf137, 6, .inl g137_75))]) [3, 6, 7, 8, 1, 2, 4, 5, 0] (by decide) rfl
              have hK9 := hK.sub (tys' := [(cf102, .int), (cf100, .int), (cf104, .int), (cf118, .int), (cf119, .int), (cf128, .int), (cf105, .int), (cf137, .int)]) [5, 6, 7, 1, 2, 3, 4, 0] rfl
              exact W.zret hx hb hr (by decide) (fun t ht hW => ⟨⟨(0), (z_4), rfl, ⟨⟨rfl, Or.inl rfl⟩, hln_4, hrq_4, hfk_4_117, hfk_4_120, hch_4_131⟩, by rw [ht]; exact hP9, va_K.moved hW.alike hK9, hD9⟩, hS.F ht⟩) hS.2.2 dX13_calls_128
            · rw [if_neg (by decide)] at hsp
              refine lv_if_ne (tgt := 129) hx hb dX13_calls_124 (by decide) (fun c_11 => ?_) (fun c_11 => (show False by revert c_11; decide).elim)
              exact hj_129 (H, locs, ls, z_4, l3_75, g903_1, g903_2, g128_75, g137_75, u3_3, u3_4, u4_1) ⟨lv_sub hl [2, 1] rfl, hS, hD.sub (ws' := [(h0, .inr (13, z_4)), (qf102, .inl (cf102, 2048, .inl f102)), (qf100, .inl (cf100, 48000, .inl f100)), (qf104, .inl (cf104, 8, .inl f104)), (qf118, .inl (cf118, 2100, .inl g903_1)), (qf119, .inl (cf119, 2100, .inl g903_2)), (qf128, .inl (cf128, 31, .inl g128_75)), (qf105, .inl (cf105, 8, .inl f105)), (qf137, .inl (cf137, 6, .inl g137_75))]) [3, 6, 7, 8, 1, 2, 4, 5, 0] (by decide) rfl, hP.sub (ws' := [(h0, .inr (13, z_4)), (qf102, .inl (cf102, 2048, .inl f102)), (qf100, .inl (cf100, 48000, .inl f100)), (qf104, .inl (cf104, 8, .inl f104)), (qf118, .inl (cf118, 2100, .inl g903_1)), (qf119, .inl (cf119, 2100, .inl g903_2)), (qf128, .inl (cf128, 31, .inl g128_75)), (qf105, .inl (cf105, 8, .inl f105)), (qf137, .inl (cf137, 6, .inl g137_75))]) [3, 6, 7, 8, 1, 2, 4, 5, 0] rfl, hfk_4_98, hfk_4_100, hfk_4_102, hfk_4_104, hfk_4_105, hfk_4_117, hfk_4_118, hfk_4_119, hfk_4_120, hfk_4_128, hfk_4_130, hch_4_131, hfk_4_132, hfk_4_137, hln_4, hrq_4, hsp⟩
        · rw [if_neg c_5] at hsp
          refine lv_aload_n hx hb dX13_calls_80 rfl (lv_at hl 2 rfl) ?_
          refine lv_aload_n hx hb dX13_calls_81 rfl (lv_at hl 2 rfl) ?_
          refine va_get (D := (dC, dI)) (ci := 13) (v := .ref qf137) (C := RX13) (T := TX13) (N := 155) hx hb hts uV_h9_X13 hown hK hP 0 rfl rfl 137 (by decide) (hts (.fieldLink RX13 276 "ClassMillModel" "wants" "[I") mw_h9_566) (fun _ h9 => h9) hfh_75_137 dX13_calls_82 ?_
          refine lv_iload hx hb dX13_calls_85 (lv_at hl 0 rfl) ?_
          obtain ⟨hi_12, hsp⟩ := ox_in hsp
          refine va_iald hx hb hK hP 8 7 rfl rfl (i := l5_75) hi_12 dX13_calls_87 ?_
          obtain ⟨⟨u5_0, u5_1⟩, hu_5, hsp⟩ := ox_bind hsp
          try dsimp only at hsp
          have hPc := hP.sub (ws' := [(h0, .inr (13, z75)), (qf128, .inl (cf128, 31, .inl g128_75)), (qf105, .inl (cf105, 8, .inl f105)), (qf102, .inl (cf102, 2048, .inl f102)), (qf100, .inl (cf100, 48000, .inl f100)), (qf104, .inl (cf104, 8, .inl f104))]) [0, 6, 7, 1, 2, 3] rfl
          have hDc := hD.sub (ws' := [(h0, .inr (13, z75)), (qf128, .inl (cf128, 31, .inl g128_75)), (qf105, .inl (cf105, 8, .inl f105)), (qf102, .inl (cf102, 2048, .inl f102)), (qf100, .inl (cf100, 48000, .inl f100)), (qf104, .inl (cf104, 8, .inl f104))]) [0, 6, 7, 1, 2, 3] (by decide) rfl
          have hKc := hK.sub (tys' := [(cf128, .int), (cf105, .int), (cf102, .int), (cf100, .int), (cf104, .int)]) [5, 6, 0, 1, 2] rfl
          have hFc := va_free (wc := [(h0, .inr (13, z75)), (qf128, .inl (cf128, 31, .inl g128_75)), (qf105, .inl (cf105, 8, .inl f105)), (qf102, .inl (cf102, 2048, .inl f102)), (qf100, .inl (cf100, 48000, .inl f100)), (qf104, .inl (cf104, 8, .inl f104))]) hD hS hA [0, 6, 7, 1, 2, 3] rfl
          refine va_calli (va_runV (As := [.int (g137_75 (l5_75 : Int32).toNatClampNeg)]) (rest := []) ⟨hx, hb, hml, hown, hts⟩ (vm_pullFit l dC dI H.size h0 z75 ((g137_75 (l5_75 : Int32).toNatClampNeg)) v98 qf100 qf102 qf104 qf105 qf128 x131_75 cf128 g128_75 cf105 f105 cf102 f102 cf100 f100 cf104 f104 nS477 fS477 hS477 qS477 tS477 nf u5_0 u5_1 hlh_75 hfh_75_98 hfh_75_100 hfh_75_102 hfh_75_104 hfh_75_105 hfh_75_128 hfh_75_131 hu_5) (cwV 1 hts gv_h9_114 rfl rfl rfl (by decide +kernel) ⟨Nat.le_of_ble_eq_true rfl, Nat.le_of_ble_eq_true rfl⟩) ⟨fun a U g mk q => by obtain ⟨q0, q1, qP, qK, qD, qhZWS477, qhZRS477⟩ := q; exact ⟨q0, q1, qP, va_K.moved (u := U) (U := U.calling g mk a) (Vm.Alike.refl U.vm) qK, qD, pz_W.moved (u := U) (U := U.calling g mk a) (Vm.Alike.refl U.vm) qhZWS477, vk_R.same rfl qhZRS477⟩, va_recv hKc hPc (ci := 13) (q0 := 0) rfl rfl, fun U hU hW => ⟨rfl, by rw [hU], by rw [hU]; exact hPc, va_K.moved hW.alike hKc, hDc.weaken (fun _ _ _ _ => trivial), by rw [hU]; exact ((pz_W.moved hW.alike hZWS477).kept hS.2.1).narrow hFc, vk_R.warm hW hZRS477⟩⟩ rfl rfl hl.1 rfl (lv_room (Nat.le_of_ble_eq_true rfl)) dX13_calls_88 ⟨Nat.le_of_ble_eq_true rfl, Nat.le_of_ble_eq_true rfl⟩) hS (fun q _ h => hFc q h) hFc ?_
          clear hS
          intro r_13 u t H1 locs ht hvm hw hB hz1 hk1 hS
          obtain ⟨z_5, rfl⟩ : ∃ z, z = u := ⟨_, rfl⟩
          obtain ⟨hP1, hK1, hD1⟩ := hB
          rw [ht] at hP1
          have hK1 := va_K.moved hvm.symm hK1
          try dsimp only at hw
          have hPD := va_join (wr := [(qf118, .inl (cf118, 2100, .inl g118_75)), (qf119, .inl (cf119, 2100, .inl g119_75)), (qf137, .inl (cf137, 6, .inl g137_75))]) (w1 := [(h0, .inr (13, z_5)), (qf128, .inl (cf128, 31, .inl g128_75)), (qf105, .inl (cf105, 8, .inl f105)), (qf102, .inl (cf102, 2048, .inl f102)), (qf100, .inl (cf100, 48000, .inl f100)), (qf104, .inl (cf104, 8, .inl f104))]) hP hD [0, 6, 7, 1, 2, 3] [4, 5, 8] rfl rfl (by decide) (by decide) hk1 hFc hP1 hD1
          clear hP hD
          obtain ⟨hP, hD⟩ := hPD
          replace hK := (hK.sub (tys' := [(cf118, .int), (cf119, .int), (cf137, .int)]) [3, 4, 7] rfl).app hK1
          clear hPc hDc hKc hFc hP1 hK1 hD1 hz1 hk1 ht hvm
          generalize H1 = H at hP hS ⊢
          replace hP : va_P (dC, dI) vwCl [(qf118, .inl (cf118, 2100, .inl g118_75)), (qf119, .inl (cf119, 2100, .inl g119_75)), (qf137, .inl (cf137, 6, .inl g137_75)), (h0, .inr (13, z_5)), (qf128, .inl (cf128, 31, .inl g128_75)), (qf105, .inl (cf105, 8, .inl f105)), (qf102, .inl (cf102, 2048, .inl f102)), (qf100, .inl (cf100, 48000, .inl f100)), (qf104, .inl (cf104, 8, .inl f104))] H := hP
          replace hD : va_D A [(qf118, .inl (cf118, 2100, .inl g118_75)), (qf119, .inl (cf119, 2100, .inl g119_75)), (qf137, .inl (cf137, 6, .inl g137_75)), (h0, .inr (13, z_5)), (qf128, .inl (cf128, 31, .inl g128_75)), (qf105, .inl (cf105, 8, .inl f105)), (qf102, .inl (cf102, 2048, .inl f102)), (qf100, .inl (cf100, 48000, .inl f100)), (qf104, .inl (cf104, 8, .inl f104))] := hD
          replace hK : va_K (dC, dI) vwCl [(cf118, .int), (cf119, .int), (cf137, .int), (cf128, .int), (cf105, .int), (cf102, .int), (cf100, .int), (cf104, .int)] s := hK
          obtain ⟨hwa_5, hln_5, hre_5, hch_5_131⟩ := hw
          have hfk_5_98 : z_5[98]? = some (.int v98) := (hre_5 98 (by decide)).trans (hfh_75_98)
          have hfk_5_100 : z_5[100]? = some (.ref qf100) := (hre_5 100 (by decide)).trans (hfh_75_100)
          have hfk_5_102 : z_5[102]? = some (.ref qf102) := (hre_5 102 (by decide)).trans (hfh_75_102)
          have hfk_5_104 : z_5[104]? = some (.ref qf104) := (hre_5 104 (by decide)).trans (hfh_75_104)
          have hfk_5_105 : z_5[105]? = some (.ref qf105) := (hre_5 105 (by decide)).trans (hfh_75_105)
          have hfk_5_117 : z_5[117]? = some (.int x117_75) := (hre_5 117 (by decide)).trans (hfh_75_117)
          have hfk_5_118 : z_5[118]? = some (.ref qf118) := (hre_5 118 (by decide)).trans (hfh_75_118)
          have hfk_5_119 : z_5[119]? = some (.ref qf119) := (hre_5 119 (by decide)).trans (hfh_75_119)
          have hfk_5_120 : z_5[120]? = some (.int x120_75) := (hre_5 120 (by decide)).trans (hfh_75_120)
          have hfk_5_128 : z_5[128]? = some (.ref qf128) := (hre_5 128 (by decide)).trans (hfh_75_128)
          have hfk_5_130 : z_5[130]? = some (.int v130) := (hre_5 130 (by decide)).trans (hfh_75_130)
          have hfk_5_132 : z_5[132]? = some (.int v132) := (hre_5 132 (by decide)).trans (hfh_75_132)
          have hfk_5_137 : z_5[137]? = some (.ref qf137) := (hre_5 137 (by decide)).trans (hfh_75_137)
          have hrq_5 : ∀ j : Nat, j ≠ 117 → j ≠ 120 → j ≠ 131 → z_5[j]? = zs[j]? := fun j g117 g120 g131 => (hre_5 j g131).trans (hrh_75 j g117 g120 g131)
          obtain ⟨rfl, hz_5⟩ := hwa_5
          rcases hz_5 with rfl | rfl
          · rw [if_pos rfl] at hsp
            refine lv_if_ne (tgt := 96) hx hb dX13_calls_91 (by decide) (fun c_14 => (show False by revert c_14; decide).elim) (fun c_14 => ?_)
            refine lv_iconst (v := 0) hx hb dX13_calls_94 (by decide) ?_
            have hr0 := Option.some.inj hsp
            clear hsp
            obtain ⟨hq0, hr1⟩ := Prod.mk.inj hr0
            clear hr0
            obtain ⟨hq1, hr2⟩ := Prod.mk.inj hr1
            clear hr1
            obtain ⟨hq2, hr3⟩ := Prod.mk.inj hr2
            clear hr2
            obtain ⟨hq3, hr4⟩ := Prod.mk.inj hr3
            clear hr3
            obtain ⟨hq4, hr5⟩ := Prod.mk.inj hr4
            clear hr4
            obtain ⟨hq5, hr6⟩ := Prod.mk.inj hr5
            clear hr5
            obtain ⟨hq6, hr7⟩ := Prod.mk.inj hr6
            clear hr6
            subst hq0
            subst hq1
            subst hq2
            subst hq3
            subst hq4
            subst hq5
            subst hq6
            subst hr7
            have hP9 := hP.sub (ws' := [(h0, .inr (13, z_5)), (qf102, .inl (cf102, 2048, .inl f102)), (qf100, .inl (cf100, 48000, .inl f100)), (qf104, .inl (cf104, 8, .inl f104)), (qf118, .inl (cf118, 2100, .inl g118_75)), (qf119, .inl (cf119, 2100, .inl g119_75)), (qf128, .inl (cf128, 31, .inl g128_75)), (qf105, .inl (cf105, 8, .inl f105)), (qf137, .inl (cf137, 6, .inl g137_75))]) [3, 6, 7, 8, 0, 1, 4, 5, 2] rfl
            have hD9 := hD.sub (ws' := [(h0, .inr (13, z_5)), (qf102, .inl (cf102, 2048, .inl f102)), (qf100, .inl (cf100, 48000, .inl f100)), (qf104, .inl (cf104, 8, .inl f104)), (qf118, .inl (cf118, 2100, .inl g118_75)), (qf119, .inl (cf119, 2100, .inl g119_75)), (qf128, .inl (cf128, 31, .inl g128_75)), (qf105, .inl (cf105, 8, .inl f105)), (qf137, .inl (cf137, 6, .inl g137_75))]) [3, 6, 7, 8, 0, 1, 4, 5, 2] (by decide) rfl
            have hK9 := hK.sub (tys' := [(cf102, .int), (cf100, .int), (cf104, .int), (cf118, .int), (cf119, .int), (cf128, .int), (cf105, .int), (cf137, .int)]) [5, 6, 7, 0, 1, 3, 4, 2] rfl
            exact W.zret hx hb hr (by decide) (fun t ht hW => ⟨⟨(0), (z_5), rfl, ⟨⟨rfl, Or.inl rfl⟩, hln_5, hrq_5, hfk_5_117, hfk_5_120, hch_5_131⟩, by rw [ht]; exact hP9, va_K.moved hW.alike hK9, hD9⟩, hS.F ht⟩) hS.2.2 dX13_calls_95
          · rw [if_neg (by decide)] at hsp
            refine lv_if_ne (tgt := 96) hx hb dX13_calls_91 (by decide) (fun c_15 => ?_) (fun c_15 => (show False by revert c_15; decide).elim)
            refine lv_iinc (v := (l5_75 + (-1))) (lv' := [(5, .int (l5_75 + (-1))), (3, .int l3_75), (0, .ref h0), (1, .int l1_75), (2, .int l2_75)]) hx hb dX13_calls_96 hl (k := 0) rfl rfl (by decide) rfl (fun ls hl => ?_)
            refine lv_goto (tgt := 75) hx hb dX13_calls_99 (by decide) ?_
            exact ih_75 H locs ls z_5 l1_75 l2_75 l3_75 (l5_75 + (-1)) g118_75 g119_75 g128_75 g137_75 x117_75 x120_75 u5_1 (hfk_5_98) (hfk_5_100) (hfk_5_102) (hfk_5_104) (hfk_5_105) (hfk_5_117) (hfk_5_118) (hfk_5_119) (hfk_5_120) (hfk_5_128) (hfk_5_130) (hch_5_131) (hfk_5_132) (hfk_5_137) hln_5 hrq_5 (lv_sub hl [0, 1, 2, 3, 4] rfl) hS (hD.sub (ws' := [(h0, .inr (13, z_5)), (qf102, .inl (cf102, 2048, .inl f102)), (qf100, .inl (cf100, 48000, .inl f100)), (qf104, .inl (cf104, 8, .inl f104)), (qf118, .inl (cf118, 2100, .inl g118_75)), (qf119, .inl (cf119, 2100, .inl g119_75)), (qf128, .inl (cf128, 31, .inl g128_75)), (qf105, .inl (cf105, 8, .inl f105)), (qf137, .inl (cf137, 6, .inl g137_75))]) [3, 6, 7, 8, 0, 1, 4, 5, 2] (by decide) rfl) (hP.sub (ws' := [(h0, .inr (13, z_5)), (qf102, .inl (cf102, 2048, .inl f102)), (qf100, .inl (cf100, 48000, .inl f100)), (qf104, .inl (cf104, 8, .inl f104)), (qf118, .inl (cf118, 2100, .inl g118_75)), (qf119, .inl (cf119, 2100, .inl g119_75)), (qf128, .inl (cf128, 31, .inl g128_75)), (qf105, .inl (cf105, 8, .inl f105)), (qf137, .inl (cf137, 6, .inl g137_75))]) [3, 6, 7, 8, 0, 1, 4, 5, 2] rfl) hsp
    · rw [if_neg c_4] at hsp
      refine lv_aload_n hx hb dX13_calls_46 rfl (lv_at hl 2 rfl) ?_
      refine va_get (D := (dC, dI)) (ci := 13) (v := .ref qf137) (C := RX13) (T := TX13) (N := 155) hx hb hts uV_h9_X13 hown hK hP 0 rfl rfl 137 (by decide) (hts (.fieldLink RX13 276 "ClassMillModel" "wants" "[I") mw_h9_566) (fun _ h9 => h9) hfh_35_137 dX13_calls_47 ?_
      refine lv_iload hx hb dX13_calls_50 (lv_at hl 0 rfl) ?_
      refine lv_aload_n hx hb dX13_calls_52 rfl (lv_at hl 2 rfl) ?_
      refine lv_iload_n hx hb dX13_calls_53 rfl (lv_at hl 1 rfl) ?_
      obtain ⟨⟨u6_0, g906_1, g906_2, u6_3, u6_4⟩, hu_6, hsp⟩ := ox_bind hsp
      try dsimp only at hsp
      have hPc := hP.sub (ws' := [(h0, .inr (13, z35)), (qf100, .inl (cf100, 48000, .inl f100)), (qf104, .inl (cf104, 8, .inl f104)), (qf102, .inl (cf102, 2048, .inl f102)), (qf118, .inl (cf118, 2100, .inl g118_35)), (qf119, .inl (cf119, 2100, .inl g119_35))]) [0, 2, 3, 1, 4, 5] rfl
      have hDc := hD.sub (ws' := [(h0, .inr (13, z35)), (qf100, .inl (cf100, 48000, .inl f100)), (qf104, .inl (cf104, 8, .inl f104)), (qf102, .inl (cf102, 2048, .inl f102)), (qf118, .inl (cf118, 2100, .inl g118_35)), (qf119, .inl (cf119, 2100, .inl g119_35))]) [0, 2, 3, 1, 4, 5] (by decide) rfl
      have hKc := hK.sub (tys' := [(cf100, .int), (cf104, .int), (cf102, .int), (cf118, .int), (cf119, .int)]) [1, 2, 0, 3, 4] rfl
      have hFc := va_free (wc := [(h0, .inr (13, z35)), (qf100, .inl (cf100, 48000, .inl f100)), (qf104, .inl (cf104, 8, .inl f104)), (qf102, .inl (cf102, 2048, .inl f102)), (qf118, .inl (cf118, 2100, .inl g118_35)), (qf119, .inl (cf119, 2100, .inl g119_35))]) hD hS hA [0, 2, 3, 1, 4, 5] rfl
      refine va_calli (va_runV (As := [.int l3_35]) (rest := [.int l4_35, .ref qf137]) ⟨hx, hb, hml, hown, hts⟩ (vm_typeAt l dC dI H.size h0 z35 l3_35 v98 qf100 qf102 qf104 x117_35 qf118 qf119 x120_35 cf100 f100 cf104 f104 cf102 f102 cf118 g118_35 cf119 g119_35 nS477 fS477 hS477 qS477 tS477 nf u6_0 g906_1 g906_2 u6_3 u6_4 hlh_35 hfh_35_98 hfh_35_100 hfh_35_102 hfh_35_104 hfh_35_117 hfh_35_118 hfh_35_119 hfh_35_120 hu_6) (cwV 1 hts gv_h9_100 rfl rfl rfl (by decide +kernel) ⟨Nat.le_of_ble_eq_true rfl, Nat.le_of_ble_eq_true rfl⟩) ⟨fun a U g mk q => by obtain ⟨q0, q1, qP, qK, qD, qhZWS477, qhZRS477⟩ := q; exact ⟨q0, q1, qP, va_K.moved (u := U) (U := U.calling g mk a) (Vm.Alike.refl U.vm) qK, qD, pz_W.moved (u := U) (U := U.calling g mk a) (Vm.Alike.refl U.vm) qhZWS477, vk_R.same rfl qhZRS477⟩, va_recv hKc hPc (ci := 13) (q0 := 0) rfl rfl, fun U hU hW => ⟨rfl, by rw [hU], by rw [hU]; exact hPc, va_K.moved hW.alike hKc, hDc.weaken (fun _ _ _ _ => trivial), by rw [hU]; exact ((pz_W.moved hW.alike hZWS477).kept hS.2.1).narrow hFc, vk_R.warm hW hZRS477⟩⟩ rfl rfl hl.1 rfl (lv_room (Nat.le_of_ble_eq_true rfl)) dX13_calls_54 ⟨Nat.le_of_ble_eq_true rfl, Nat.le_of_ble_eq_true rfl⟩) hS (fun q _ h => hFc q h) hFc ?_
      clear hS
      intro r_16 u t H1 locs ht hvm hw hB hz1 hk1 hS
      obtain ⟨z_6, rfl⟩ : ∃ z, z = u := ⟨_, rfl⟩
      obtain ⟨hP1, hK1, hD1⟩ := hB
      rw [ht] at hP1
      have hK1 := va_K.moved hvm.symm hK1
      try dsimp only at hw
      have hPD := va_join (wr := [(qf128, .inl (cf128, 31, .inl g128_35)), (qf105, .inl (cf105, 8, .inl f105)), (qf137, .inl (cf137, 6, .inl g137_35))]) (w1 := [(h0, .inr (13, z_6)), (qf100, .inl (cf100, 48000, .inl f100)), (qf104, .inl (cf104, 8, .inl f104)), (qf102, .inl (cf102, 2048, .inl f102)), (qf118, .inl (cf118, 2100, .inl g906_1)), (qf119, .inl (cf119, 2100, .inl g906_2))]) hP hD [0, 2, 3, 1, 4, 5] [6, 7, 8] rfl rfl (by decide) (by decide) hk1 hFc hP1 hD1
      clear hP hD
      obtain ⟨hP, hD⟩ := hPD
      replace hK := (hK.sub (tys' := [(cf128, .int), (cf105, .int), (cf137, .int)]) [5, 6, 7] rfl).app hK1
      clear hPc hDc hKc hFc hP1 hK1 hD1 hz1 hk1 ht hvm
      generalize H1 = H at hP hS ⊢
      replace hP : va_P (dC, dI) vwCl [(qf128, .inl (cf128, 31, .inl g128_35)), (qf105, .inl (cf105, 8, .inl f105)), (qf137, .inl (cf137, 6, .inl g137_35)), (h0, .inr (13, z_6)), (qf100, .inl (cf100, 48000, .inl f100)), (qf104, .inl (cf104, 8, .inl f104)), (qf102, .inl (cf102, 2048, .inl f102)), (qf118, .inl (cf118, 2100, .inl g906_1)), (qf119, .inl (cf119, 2100, .inl g906_2))] H := hP
      replace hD : va_D A [(qf128, .inl (cf128, 31, .inl g128_35)), (qf105, .inl (cf105, 8, .inl f105)), (qf137, .inl (cf137, 6, .inl g137_35)), (h0, .inr (13, z_6)), (qf100, .inl (cf100, 48000, .inl f100)), (qf104, .inl (cf104, 8, .inl f104)), (qf102, .inl (cf102, 2048, .inl f102)), (qf118, .inl (cf118, 2100, .inl g906_1)), (qf119, .inl (cf119, 2100, .inl g906_2))] := hD
      replace hK : va_K (dC, dI) vwCl [(cf128, .int), (cf105, .int), (cf137, .int), (cf100, .int), (cf104, .int), (cf102, .int), (cf118, .int), (cf119, .int)] s := hK
      obtain ⟨hwa_6, hln_6, hre_6, hch_6_117, hch_6_120⟩ := hw
      have hfk_6_98 : z_6[98]? = some (.int v98) := (hre_6 98 (by decide) (by decide)).trans (hfh_35_98)
      have hfk_6_100 : z_6[100]? = some (.ref qf100) := (hre_6 100 (by decide) (by decide)).trans (hfh_35_100)
      have hfk_6_102 : z_6[102]? = some (.ref qf102) := (hre_6 102 (by decide) (by decide)).trans (hfh_35_102)
      have hfk_6_104 : z_6[104]? = some (.ref qf104) := (hre_6 104 (by decide) (by decide)).trans (hfh_35_104)
      have hfk_6_105 : z_6[105]? = some (.ref qf105) := (hre_6 105 (by decide) (by decide)).trans (hfh_35_105)
      have hfk_6_118 : z_6[118]? = some (.ref qf118) := (hre_6 118 (by decide) (by decide)).trans (hfh_35_118)
      have hfk_6_119 : z_6[119]? = some (.ref qf119) := (hre_6 119 (by decide) (by decide)).trans (hfh_35_119)
      have hfk_6_128 : z_6[128]? = some (.ref qf128) := (hre_6 128 (by decide) (by decide)).trans (hfh_35_128)
      have hfk_6_130 : z_6[130]? = some (.int v130) := (hre_6 130 (by decide) (by decide)).trans (hfh_35_130)
      have hfk_6_131 : z_6[131]? = some (.int x131_35) := (hre_6 131 (by decide) (by decide)).trans (hfh_35_131)
      have hfk_6_132 : z_6[132]? = some (.int v132) := (hre_6 132 (by decide) (by decide)).trans (hfh_35_132)
      have hfk_6_137 : z_6[137]? = some (.ref qf137) := (hre_6 137 (by decide) (by decide)).trans (hfh_35_137)
      have hrq_6 : ∀ j : Nat, j ≠ 117 → j ≠ 120 → j ≠ 131 → z_6[j]? = zs[j]? := fun j g117 g120 g131 => (hre_6 j g117 g120).trans (hrh_35 j g117 g120 g131)
      obtain rfl := hwa_6
      obtain ⟨hi_17, hsp⟩ := ox_in hsp
      refine va_iast hx hb hK hP hD hS 2 2 rfl rfl (i := l4_35) (x := u6_0) hi_17 dX13_calls_57 ?_
      clear hP hD hS
      intro H locs hP hD hS
      replace hP : va_P (dC, dI) vwCl [(qf128, .inl (cf128, 31, .inl g128_35)), (qf105, .inl (cf105, 8, .inl f105)), (qf137, .inl (cf137, 6, .inl (upd g137_35 (l4_35 : Int32).toNatClampNeg u6_0))), (h0, .inr (13, z_6)), (qf100, .inl (cf100, 48000, .inl f100)), (qf104, .inl (cf104, 8, .inl f104)), (qf102, .inl (cf102, 2048, .inl f102)), (qf118, .inl (cf118, 2100, .inl g906_1)), (qf119, .inl (cf119, 2100, .inl g906_2))] H := hP
      replace hD : va_D A [(qf128, .inl (cf128, 31, .inl g128_35)), (qf105, .inl (cf105, 8, .inl f105)), (qf137, .inl (cf137, 6, .inl (upd g137_35 (l4_35 : Int32).toNatClampNeg u6_0))), (h0, .inr (13, z_6)), (qf100, .inl (cf100, 48000, .inl f100)), (qf104, .inl (cf104, 8, .inl f104)), (qf102, .inl (cf102, 2048, .inl f102)), (qf118, .inl (cf118, 2100, .inl g906_1)), (qf119, .inl (cf119, 2100, .inl g906_2))] := hD
      refine lv_iinc (v := (l4_35 + 1)) (lv' := [(4, .int (l4_35 + 1)), (3, .int l3_35), (0, .ref h0), (1, .int l1_35), (2, .int l2_35)]) hx hb dX13_calls_58 hl (k := 0) rfl rfl (by decide) rfl (fun ls hl => ?_)
      refine lv_aload_n hx hb dX13_calls_61 rfl (lv_at hl 2 rfl) ?_
      refine va_get (D := (dC, dI)) (ci := 13) (v := .int u6_4) (C := RX13) (T := TX13) (N := 155) hx hb hts uV_h9_X13 hown hK hP 3 rfl rfl 120 (by decide) (hts (.fieldLink RX13 879 "ClassMillModel" "kindEnd" "I") mw_h9_496) (fun _ h9 => h9) hch_6_120 dX13_calls_62 ?_
      refine lv_istore_n (lv' := [(3, .int u6_4), (4, .int (l4_35 + 1)), (0, .ref h0), (1, .int l1_35), (2, .int l2_35)]) hx hb dX13_calls_65 rfl hl (by decide) rfl (fun ls hl => ?_)
      refine lv_goto (tgt := 35) hx hb dX13_calls_66 (by decide) ?_
      exact ih_35 H locs ls z_6 l1_35 l2_35 u6_4 (l4_35 + 1) g906_1 g906_2 g128_35 (upd g137_35 (l4_35 : Int32).toNatClampNeg u6_0) u6_3 u6_4 x131_35 (hfk_6_98) (hfk_6_100) (hfk_6_102) (hfk_6_104) (hfk_6_105) (hch_6_117) (hfk_6_118) (hfk_6_119) (hch_6_120) (hfk_6_128) (hfk_6_130) (hfk_6_131) (hfk_6_132) (hfk_6_137) hln_6 hrq_6 (lv_sub hl [1, 0, 2, 3, 4] rfl) hS (hD.sub (ws' := [(h0, .inr (13, z_6)), (qf102, .inl (cf102, 2048, .inl f102)), (qf100, .inl (cf100, 48000, .inl f100)), (qf104, .inl (cf104, 8, .inl f104)), (qf118, .inl (cf118, 2100, .inl g906_1)), (qf119, .inl (cf119, 2100, .inl g906_2)), (qf128, .inl (cf128, 31, .inl g128_35)), (qf105, .inl (cf105, 8, .inl f105)), (qf137, .inl (cf137, 6, .inl (upd g137_35 (l4_35 : Int32).toNatClampNeg u6_0)))]) [3, 6, 4, 5, 7, 8, 0, 1, 2] (by decide) rfl) (hP.sub (ws' := [(h0, .inr (13, z_6)), (qf102, .inl (cf102, 2048, .inl f102)), (qf100, .inl (cf100, 48000, .inl f100)), (qf104, .inl (cf104, 8, .inl f104)), (qf118, .inl (cf118, 2100, .inl g906_1)), (qf119, .inl (cf119, 2100, .inl g906_2)), (qf128, .inl (cf128, 31, .inl g128_35)), (qf105, .inl (cf105, 8, .inl f105)), (qf137, .inl (cf137, 6, .inl (upd g137_35 (l4_35 : Int32).toNatClampNeg u6_0)))]) [3, 6, 4, 5, 7, 8, 0, 1, 2] rfl) hsp
def lp_vm_fieldsOf_4 (nf n : Nat) (a1 : Int32) (v98 : Int32) (f106 : Nat → Int32) (f105 : Nat → Int32) (f102 : Nat → Int32) (f100 : Nat → Int32) (f104 : Nat → Int32) (nS477 : Nat) (fS477 : Nat → Int32)  (l2_4 : Int32) (l3_4 : Int32) : Option (Int32) := match n with
  | 0 => none
  | n + 1 => (if l3_4 = (-1) then (some l2_4) else (if 8 ≤ l3_4 then (if (l3_4 - 8) < 0 then none else if 8 ≤ ((l3_4 - 8) : Int32).toNatClampNeg then none else ((sp_vm_superOf nf l3_4 v98 f105 f102 f100 f104 nS477 fS477).bind (fun p1 => (lp_vm_fieldsOf_4 nf n a1 v98 f106 f105 f102 f100 f104 nS477 fS477 (l2_4 + (f106 ((l3_4 - 8) : Int32).toNatClampNeg)) p1)))) else ((sp_vm_superOf nf l3_4 v98 f105 f102 f100 f104 nS477 fS477).bind (fun p2 => (lp_vm_fieldsOf_4 nf n a1 v98 f106 f105 f102 f100 f104 nS477 fS477 (l2_4 + 0) p2)))))
def sp_vm_fieldsOf (nf : Nat) (a1 : Int32) (v98 : Int32) (f106 : Nat → Int32) (f105 : Nat → Int32) (f102 : Nat → Int32) (f100 : Nat → Int32) (f104 : Nat → Int32) (nS477 : Nat) (fS477 : Nat → Int32) : Option (Int32) := (lp_vm_fieldsOf_4 nf nf a1 v98 f106 f105 f102 f100 f104 nS477 fS477  0 a1)
