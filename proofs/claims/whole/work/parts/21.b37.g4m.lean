set_option maxHeartbeats 4000000 in
set_option maxRecDepth 100000 in
/-- ClassMillModel.fieldsOf -/
theorem vm_fieldsOf (l : Launch) (dC : Nat → ClassId) (dI : Nat → Nat → Nat) (sz : Nat) (h0 : Nat) (zs : (List Value)) (a1 : Int32) (v98 : Int32) (qf100 : Nat) (qf102 : Nat) (qf104 : Nat) (qf105 : Nat) (qf106 : Nat) (cf106 : ClassId) (f106 : (Nat → Int32)) (cf105 : ClassId) (f105 : (Nat → Int32)) (cf102 : ClassId) (f102 : (Nat → Int32)) (cf100 : ClassId) (f100 : (Nat → Int32)) (cf104 : ClassId) (f104 : (Nat → Int32)) (nS477 : Nat) (fS477 : (Nat → Int32)) (hS477 : Nat) (qS477 : Nat) (tS477 : String) (nf : Nat) (r0 : Int32) (hlen : zs.length = 155) (hf98 : zs[98]? = some (.int v98)) (hf100 : zs[100]? = some (.ref qf100)) (hf102 : zs[102]? = some (.ref qf102)) (hf104 : zs[104]? = some (.ref qf104)) (hf105 : zs[105]? = some (.ref qf105)) (hf106 : zs[106]? = some (.ref qf106)) (hsp : sp_vm_fieldsOf nf a1 v98 f106 f105 f102 f100 f104 nS477 fS477 = some r0) : Met l yX13_fieldsOf (.code yX13_fieldsOf cX13_fieldsOf 4 (some .int) :: VS_h9) ({ frames := 8, cells := 0, slots := 0, locals := 181 }) (va_Pc [.ref h0, .int a1] (fun U => U.heap.size = sz ∧ va_P (dC, dI) vwCl [(h0, .inr (13, zs)), (qf106, .inl (cf106, 8, .inl f106)), (qf105, .inl (cf105, 8, .inl f105)), (qf102, .inl (cf102, 2048, .inl f102)), (qf100, .inl (cf100, 48000, .inl f100)), (qf104, .inl (cf104, 8, .inl f104))] U.heap ∧ va_K (dC, dI) vwCl [(cf106, .int), (cf105, .int), (cf102, .int), (cf100, .int), (cf104, .int)] U ∧ va_D (fun _ => True) [(h0, .inr (13, zs)), (qf106, .inl (cf106, 8, .inl f106)), (qf105, .inl (cf105, 8, .inl f105)), (qf102, .inl (cf102, 2048, .inl f102)), (qf100, .inl (cf100, 48000, .inl f100)), (qf104, .inl (cf104, 8, .inl f104))] ∧ pz_W nS477 fS477 hS477 qS477 (va_A [(h0, .inr (13, zs)), (qf106, .inl (cf106, 8, .inl f106)), (qf105, .inl (cf105, 8, .inl f105)), (qf102, .inl (cf102, 2048, .inl f102)), (qf100, .inl (cf100, 48000, .inl f100)), (qf104, .inl (cf104, 8, .inl f104))] sz) U U.heap ∧ vk_R RX13 477 tS477 hS477 U)) (va_Qi (fun (r : Int32) (u : (List Value)) => match u with | (zo1) => r0 = r ∧ zo1.length = 155 ∧ (∀ j : Nat, zo1[j]? = zs[j]?)) (fun (u : (List Value)) (t : State) => match u with | (zo1) => va_P (dC, dI) vwCl [(h0, .inr (13, zo1)), (qf106, .inl (cf106, 8, .inl f106)), (qf105, .inl (cf105, 8, .inl f105)), (qf102, .inl (cf102, 2048, .inl f102)), (qf100, .inl (cf100, 48000, .inl f100)), (qf104, .inl (cf104, 8, .inl f104))] t.heap ∧ va_K (dC, dI) vwCl [(cf106, .int), (cf105, .int), (cf102, .int), (cf100, .int), (cf104, .int)] t ∧ va_D (va_A [(h0, .inr (13, zs)), (qf106, .inl (cf106, 8, .inl f106)), (qf105, .inl (cf105, 8, .inl f105)), (qf102, .inl (cf102, 2048, .inl f102)), (qf100, .inl (cf100, 48000, .inl f100)), (qf104, .inl (cf104, 8, .inl f104))] sz) [(h0, .inr (13, zo1)), (qf106, .inl (cf106, 8, .inl f106)), (qf105, .inl (cf105, 8, .inl f105)), (qf102, .inl (cf102, 2048, .inl f102)), (qf100, .inl (cf100, 48000, .inl f100)), (qf104, .inl (cf104, 8, .inl f104))]) (va_A [(h0, .inr (13, zs)), (qf106, .inl (cf106, 8, .inl f106)), (qf105, .inl (cf105, 8, .inl f105)), (qf102, .inl (cf102, 2048, .inl f102)), (qf100, .inl (cf100, 48000, .inl f100)), (qf104, .inl (cf104, 8, .inl f104))] sz)) 0 0 (va_A [(h0, .inr (13, zs)), (qf106, .inl (cf106, 8, .inl f106)), (qf105, .inl (cf105, 8, .inl f105)), (qf102, .inl (cf102, 2048, .inl f102)), (qf100, .inl (cf100, 48000, .inl f100)), (qf104, .inl (cf104, 8, .inl f104))] sz) := by
  refine Met.ofW (cc := cX13_fieldsOf) (maxL := 4) (ret := (some .int)) (by decide) rfl ?_
  intro p e s m args below meth c s₁ B hml hv
  obtain ⟨rfl, hsz, hP, hK, hD0, hZWS477, hZRS477⟩ := hv
  have hx := B.exec
  have hb := B.bytes
  have hr := B.returns
  have hts := atoms_spec (ws := (.code yX13_fieldsOf cX13_fieldsOf 4 (some .int) :: VS_h9)) B.pre
  replace hts := fun w (h : w ∈ VS_h9) => hts w (List.mem_cons_of_mem _ h)
  have hown : s.vm.findClass RX13 = some m.cls := findClass_of_methodNamed B.named
  have hlocks := B.notSynchronized
  subst hsz
  have hD := hD0.self (sz := s.heap.size)
  generalize hAe : va_A [(h0, .inr (13, zs)), (qf106, .inl (cf106, 8, .inl f106)), (qf105, .inl (cf105, 8, .inl f105)), (qf102, .inl (cf102, 2048, .inl f102)), (qf100, .inl (cf100, 48000, .inl f100)), (qf104, .inl (cf104, 8, .inl f104))] s.heap.size = A at hD hZWS477 ⊢
  have hA : ∀ q : Nat, s.heap.size ≤ q → A q := fun q h => by rw [← hAe]; exact Or.inr h
  have hP : va_P (dC, dI) vwCl [(h0, .inr (13, zs)), (qf106, .inl (cf106, 8, .inl f106)), (qf105, .inl (cf105, 8, .inl f105)), (qf102, .inl (cf102, 2048, .inl f102)), (qf100, .inl (cf100, 48000, .inl f100)), (qf104, .inl (cf104, 8, .inl f104))] s.heap := hP
  have hl := lv_entry ([.ref h0, .int a1]) (n := 4) (Nat.le_of_ble_eq_true rfl)
  rw [lg_entry_eq]
  generalize (lg_sl ([.ref h0, .int a1]) ++ List.replicate (4 - (lg_sl ([.ref h0, .int a1])).length) Slot.unset).toArray = ls at hl ⊢
  have hl : lv_has ls 4 [(0, .ref h0), (1, .int a1)] := hl
  obtain ⟨H, hH⟩ : ∃ H : Heap, s.heap = H := ⟨_, rfl⟩
  rw [hH] at hP ⊢
  have hS : va_S A s.heap H [] := by rw [← hH]; exact va_S.rf
  obtain ⟨locs, hlo⟩ : ∃ locs : List Loc, locs = [] := ⟨_, rfl⟩
  rw [← hlo] at hS ⊢
  have hrs0 : ∀ j : Nat, zs[j]? = zs[j]? := fun _  => rfl
  unfold sp_vm_fieldsOf at hsp
  refine lv_iconst (v := 0) hx hb dX13_fieldsOf_0 (by decide) ?_
  refine lv_istore_n (lv' := [(2, .int 0), (0, .ref h0), (1, .int a1)]) hx hb dX13_fieldsOf_1 rfl hl (by decide) rfl (fun ls hl => ?_)
  refine lv_iload_n hx hb dX13_fieldsOf_2 rfl (lv_at hl 2 rfl) ?_
  refine lv_istore_n (lv' := [(3, .int a1), (2, .int 0), (0, .ref h0), (1, .int a1)]) hx hb dX13_fieldsOf_3 rfl hl (by decide) rfl (fun ls hl => ?_)
  replace hl : lv_has ls 4 [(3, .int a1), (2, .int 0), (0, .ref h0)] := lv_sub hl [0, 1, 2] rfl
  replace hP := hP.sub (ws' := [(h0, .inr (13, zs)), (qf106, .inl (cf106, 8, .inl f106)), (qf105, .inl (cf105, 8, .inl f105)), (qf102, .inl (cf102, 2048, .inl f102)), (qf100, .inl (cf100, 48000, .inl f100)), (qf104, .inl (cf104, 8, .inl f104))]) [0, 1, 2, 3, 4, 5] rfl
  replace hD := hD.sub (ws' := [(h0, .inr (13, zs)), (qf106, .inl (cf106, 8, .inl f106)), (qf105, .inl (cf105, 8, .inl f105)), (qf102, .inl (cf102, 2048, .inl f102)), (qf100, .inl (cf100, 48000, .inl f100)), (qf104, .inl (cf104, 8, .inl f104))]) [0, 1, 2, 3, 4, 5] (by decide) rfl
  replace hK := hK.sub (tys' := [(cf106, .int), (cf105, .int), (cf102, .int), (cf100, .int), (cf104, .int)]) [0, 1, 2, 3, 4] rfl
  obtain ⟨n_4, hn_4⟩ : ∃ z : Nat, z = nf := ⟨_, rfl⟩
  obtain ⟨l2_4, el2_4⟩ : ∃ z : Int32, z = 0 := ⟨_, rfl⟩
  obtain ⟨l3_4, el3_4⟩ : ∃ z : Int32, z = a1 := ⟨_, rfl⟩
  replace hsp : lp_vm_fieldsOf_4 nf n_4 a1 v98 f106 f105 f102 f100 f104 nS477 fS477 l2_4 l3_4 = some r0 := by rw [hn_4, el2_4, el3_4]; exact hsp
  replace hl : lv_has ls 4 [(3, .int l3_4), (2, .int l2_4), (0, .ref h0)] := by rw [el2_4, el3_4]; exact hl
  obtain ⟨z4, ez4⟩ : ∃ z : List Value, z = zs := ⟨_, rfl⟩
  have hfh_4_98 : z4[98]? = some (.int v98) := by rw [ez4]; exact hf98
  have hfh_4_100 : z4[100]? = some (.ref qf100) := by rw [ez4]; exact hf100
  have hfh_4_102 : z4[102]? = some (.ref qf102) := by rw [ez4]; exact hf102
  have hfh_4_104 : z4[104]? = some (.ref qf104) := by rw [ez4]; exact hf104
  have hfh_4_105 : z4[105]? = some (.ref qf105) := by rw [ez4]; exact hf105
  have hfh_4_106 : z4[106]? = some (.ref qf106) := by rw [ez4]; exact hf106
  have hlh_4 : z4.length = 155 := by rw [ez4]; exact hlen
  have hrh_4 : ∀ j : Nat, z4[j]? = zs[j]? := by rw [ez4]; exact hrs0
  replace hP : va_P (dC, dI) vwCl [(h0, .inr (13, z4)), (qf106, .inl (cf106, 8, .inl f106)), (qf105, .inl (cf105, 8, .inl f105)), (qf102, .inl (cf102, 2048, .inl f102)), (qf100, .inl (cf100, 48000, .inl f100)), (qf104, .inl (cf104, 8, .inl f104))] H := by rw [ez4]; exact hP
  replace hD : va_D A [(h0, .inr (13, z4)), (qf106, .inl (cf106, 8, .inl f106)), (qf105, .inl (cf105, 8, .inl f105)), (qf102, .inl (cf102, 2048, .inl f102)), (qf100, .inl (cf100, 48000, .inl f100)), (qf104, .inl (cf104, 8, .inl f104))] := by rw [ez4]; exact hD
  clear hn_4 ez4 el2_4 el3_4
  try clear hlo
  try clear hH
  revert hsp
  revert hP
  revert hD
  revert hS
  revert hl
  revert hrh_4
  revert hlh_4
  revert hfh_4_106
  revert hfh_4_105
  revert hfh_4_104
  revert hfh_4_102
  revert hfh_4_100
  revert hfh_4_98
  revert l3_4
  revert l2_4
  revert z4
  revert ls
  revert locs
  revert H
  induction n_4 with
  | zero => intro H locs ls z4 l2_4 l3_4 hfh_4_98 hfh_4_100 hfh_4_102 hfh_4_104 hfh_4_105 hfh_4_106 hlh_4 hrh_4 hl hS hD hP hsp; unfold lp_vm_fieldsOf_4 at hsp; cases hsp
  | succ n_4 ih_4 =>
    intro H locs ls z4 l2_4 l3_4 hfh_4_98 hfh_4_100 hfh_4_102 hfh_4_104 hfh_4_105 hfh_4_106 hlh_4 hrh_4 hl hS hD hP hsp
    unfold lp_vm_fieldsOf_4 at hsp
    try dsimp only at hsp
    refine lv_iload_n hx hb dX13_fieldsOf_4 rfl (lv_at hl 0 rfl) ?_
    refine lv_iconst (v := (-1)) hx hb dX13_fieldsOf_5 (by decide) ?_
    refine lv_icmp_eq (tgt := 40) hx hb dX13_fieldsOf_6 (by decide) (fun c_1 => ?_) (fun c_1 => ?_)
    · rw [if_pos c_1] at hsp
      refine lv_iload_n hx hb dX13_fieldsOf_40 rfl (lv_at hl 1 rfl) ?_
      have hr0 := Option.some.inj hsp
      clear hsp
      subst hr0
      have hP9 := hP.sub (ws' := [(h0, .inr (13, z4)), (qf106, .inl (cf106, 8, .inl f106)), (qf105, .inl (cf105, 8, .inl f105)), (qf102, .inl (cf102, 2048, .inl f102)), (qf100, .inl (cf100, 48000, .inl f100)), (qf104, .inl (cf104, 8, .inl f104))]) [0, 1, 2, 3, 4, 5] rfl
      have hD9 := hD.sub (ws' := [(h0, .inr (13, z4)), (qf106, .inl (cf106, 8, .inl f106)), (qf105, .inl (cf105, 8, .inl f105)), (qf102, .inl (cf102, 2048, .inl f102)), (qf100, .inl (cf100, 48000, .inl f100)), (qf104, .inl (cf104, 8, .inl f104))]) [0, 1, 2, 3, 4, 5] (by decide) rfl
      have hK9 := hK.sub (tys' := [(cf106, .int), (cf105, .int), (cf102, .int), (cf100, .int), (cf104, .int)]) [0, 1, 2, 3, 4] rfl
      exact W.iret hx hb hr (fun t ht hW => ⟨⟨(l2_4), (z4), rfl, ⟨rfl, hlh_4, hrh_4⟩, by rw [ht]; exact hP9, va_K.moved hW.alike hK9, hD9⟩, hS.F ht⟩) hS.2.2 dX13_fieldsOf_41
    · rw [if_neg c_1] at hsp
      refine lv_iload_n hx hb dX13_fieldsOf_9 rfl (lv_at hl 1 rfl) ?_
      refine lv_iload_n hx hb dX13_fieldsOf_10 rfl (lv_at hl 0 rfl) ?_
      refine lv_bipush (v := 8) hx hb dX13_fieldsOf_11 (by decide) ?_
      refine lv_icmp_ge (tgt := 20) hx hb dX13_fieldsOf_13 (by decide) (fun c_2 => ?_) (fun c_2 => ?_)
      · rw [if_pos c_2] at hsp
        refine lv_aload_n hx hb dX13_fieldsOf_20 rfl (lv_at hl 2 rfl) ?_
        refine va_get (D := (dC, dI)) (ci := 13) (v := .ref qf106) (C := RX13) (T := TX13) (N := 155) hx hb hts uV_h9_X13 hown hK hP 0 rfl rfl 106 (by decide) (hts (.fieldLink RX13 227 "ClassMillModel" "fieldMany" "[I") mw_h9_256) (fun _ h9 => h9) hfh_4_106 dX13_fieldsOf_21 ?_
        refine lv_iload_n hx hb dX13_fieldsOf_24 rfl (lv_at hl 0 rfl) ?_
        refine lv_bipush (v := 8) hx hb dX13_fieldsOf_25 (by decide) ?_
        refine lv_isub hx hb dX13_fieldsOf_27 ?_
        obtain ⟨hi_3, hsp⟩ := ox_in hsp
        refine va_iald hx hb hK hP 1 0 rfl rfl (i := (l3_4 - 8)) hi_3 dX13_fieldsOf_28 ?_
        refine lv_iadd hx hb dX13_fieldsOf_29 ?_
        refine lv_istore_n (lv' := [(2, .int (l2_4 + (f106 ((l3_4 - 8) : Int32).toNatClampNeg))), (3, .int l3_4), (0, .ref h0)]) hx hb dX13_fieldsOf_30 rfl hl (by decide) rfl (fun ls hl => ?_)
        refine lv_aload_n hx hb dX13_fieldsOf_31 rfl (lv_at hl 2 rfl) ?_
        refine lv_iload_n hx hb dX13_fieldsOf_32 rfl (lv_at hl 1 rfl) ?_
        obtain ⟨u1_0, hu_1, hsp⟩ := ox_bind hsp
        try dsimp only at hsp
        have hPc := hP.sub (ws' := [(h0, .inr (13, z4)), (qf105, .inl (cf105, 8, .inl f105)), (qf102, .inl (cf102, 2048, .inl f102)), (qf100, .inl (cf100, 48000, .inl f100)), (qf104, .inl (cf104, 8, .inl f104))]) [0, 2, 3, 4, 5] rfl
        have hDc := hD.sub (ws' := [(h0, .inr (13, z4)), (qf105, .inl (cf105, 8, .inl f105)), (qf102, .inl (cf102, 2048, .inl f102)), (qf100, .inl (cf100, 48000, .inl f100)), (qf104, .inl (cf104, 8, .inl f104))]) [0, 2, 3, 4, 5] (by decide) rfl
        have hKc := hK.sub (tys' := [(cf105, .int), (cf102, .int), (cf100, .int), (cf104, .int)]) [1, 2, 3, 4] rfl
        have hFc := va_free (wc := [(h0, .inr (13, z4)), (qf105, .inl (cf105, 8, .inl f105)), (qf102, .inl (cf102, 2048, .inl f102)), (qf100, .inl (cf100, 48000, .inl f100)), (qf104, .inl (cf104, 8, .inl f104))]) hD hS hA [0, 2, 3, 4, 5] rfl
        refine va_calli (va_runV (As := [.int l3_4]) (rest := []) ⟨hx, hb, hml, hown, hts⟩ (vm_superOf l dC dI H.size h0 z4 l3_4 v98 qf100 qf102 qf104 qf105 cf105 f105 cf102 f102 cf100 f100 cf104 f104 nS477 fS477 hS477 qS477 tS477 nf u1_0 hlh_4 hfh_4_98 hfh_4_100 hfh_4_102 hfh_4_104 hfh_4_105 hu_1) (cwV 1 hts gv_h9_98 rfl rfl rfl (by decide +kernel) ⟨Nat.le_of_ble_eq_true rfl, Nat.le_of_ble_eq_true rfl⟩) ⟨fun a U g mk q => by obtain ⟨q0, q1, qP, qK, qD, qhZWS477, qhZRS477⟩ := q; exact ⟨q0, q1, qP, va_K.moved (u := U) (U := U.calling g mk a) (Vm.Alike.refl U.vm) qK, qD, pz_W.moved (u := U) (U := U.calling g mk a) (Vm.Alike.refl U.vm) qhZWS477, vk_R.same rfl qhZRS477⟩, va_recv hKc hPc (ci := 13) (q0 := 0) rfl rfl, fun U hU hW => ⟨rfl, by rw [hU], by rw [hU]; exact hPc, va_K.moved hW.alike hKc, hDc.weaken (fun _ _ _ _ => trivial), by rw [hU]; exact ((pz_W.moved hW.alike hZWS477).kept hS.2.1).narrow hFc, vk_R.warm hW hZRS477⟩⟩ rfl rfl hl.1 rfl (lv_room (Nat.le_of_ble_eq_true rfl)) dX13_fieldsOf_33 ⟨Nat.le_of_ble_eq_true rfl, Nat.le_of_ble_eq_true rfl⟩) hS (fun q _ h => hFc q h) hFc ?_
        clear hS
        intro r_4 u t H1 locs ht hvm hw hB hz1 hk1 hS
        obtain ⟨z_1, rfl⟩ : ∃ z, z = u := ⟨_, rfl⟩
        obtain ⟨hP1, hK1, hD1⟩ := hB
        rw [ht] at hP1
        have hK1 := va_K.moved hvm.symm hK1
        try dsimp only at hw
        have hPD := va_join (wr := [(qf106, .inl (cf106, 8, .inl f106))]) (w1 := [(h0, .inr (13, z_1)), (qf105, .inl (cf105, 8, .inl f105)), (qf102, .inl (cf102, 2048, .inl f102)), (qf100, .inl (cf100, 48000, .inl f100)), (qf104, .inl (cf104, 8, .inl f104))]) hP hD [0, 2, 3, 4, 5] [1] rfl rfl (by decide) (by decide) hk1 hFc hP1 hD1
        clear hP hD
        obtain ⟨hP, hD⟩ := hPD
        replace hK := (hK.sub (tys' := [(cf106, .int)]) [0] rfl).app hK1
        clear hPc hDc hKc hFc hP1 hK1 hD1 hz1 hk1 ht hvm
        generalize H1 = H at hP hS ⊢
        replace hP : va_P (dC, dI) vwCl [(qf106, .inl (cf106, 8, .inl f106)), (h0, .inr (13, z_1)), (qf105, .inl (cf105, 8, .inl f105)), (qf102, .inl (cf102, 2048, .inl f102)), (qf100, .inl (cf100, 48000, .inl f100)), (qf104, .inl (cf104, 8, .inl f104))] H := hP
        replace hD : va_D A [(qf106, .inl (cf106, 8, .inl f106)), (h0, .inr (13, z_1)), (qf105, .inl (cf105, 8, .inl f105)), (qf102, .inl (cf102, 2048, .inl f102)), (qf100, .inl (cf100, 48000, .inl f100)), (qf104, .inl (cf104, 8, .inl f104))] := hD
        replace hK : va_K (dC, dI) vwCl [(cf106, .int), (cf105, .int), (cf102, .int), (cf100, .int), (cf104, .int)] s := hK
        obtain ⟨hwa_1, hln_1, hre_1⟩ := hw
        have hfk_1_98 : z_1[98]? = some (.int v98) := (hre_1 98 ).trans (hfh_4_98)
        have hfk_1_100 : z_1[100]? = some (.ref qf100) := (hre_1 100 ).trans (hfh_4_100)
        have hfk_1_102 : z_1[102]? = some (.ref qf102) := (hre_1 102 ).trans (hfh_4_102)
        have hfk_1_104 : z_1[104]? = some (.ref qf104) := (hre_1 104 ).trans (hfh_4_104)
        have hfk_1_105 : z_1[105]? = some (.ref qf105) := (hre_1 105 ).trans (hfh_4_105)
        have hfk_1_106 : z_1[106]? = some (.ref qf106) := (hre_1 106 ).trans (hfh_4_106)
        have hrq_1 : ∀ j : Nat, z_1[j]? = zs[j]? := fun j  => (hre_1 j ).trans (hrh_4 j )
        obtain rfl := hwa_1
        refine lv_istore_n (lv' := [(3, .int u1_0), (2, .int (l2_4 + (f106 ((l3_4 - 8) : Int32).toNatClampNeg))), (0, .ref h0)]) hx hb dX13_fieldsOf_36 rfl hl (by decide) rfl (fun ls hl => ?_)
        refine lv_goto (tgt := 4) hx hb dX13_fieldsOf_37 (by decide) ?_
        exact ih_4 H locs ls z_1 (l2_4 + (f106 ((l3_4 - 8) : Int32).toNatClampNeg)) u1_0 (hfk_1_98) (hfk_1_100) (hfk_1_102) (hfk_1_104) (hfk_1_105) (hfk_1_106) hln_1 hrq_1 (lv_sub hl [0, 1, 2] rfl) hS (hD.sub (ws' := [(h0, .inr (13, z_1)), (qf106, .inl (cf106, 8, .inl f106)), (qf105, .inl (cf105, 8, .inl f105)), (qf102, .inl (cf102, 2048, .inl f102)), (qf100, .inl (cf100, 48000, .inl f100)), (qf104, .inl (cf104, 8, .inl f104))]) [1, 0, 2, 3, 4, 5] (by decide) rfl) (hP.sub (ws' := [(h0, .inr (13, z_1)), (qf106, .inl (cf106, 8, .inl f106)), (qf105, .inl (cf105, 8, .inl f105)), (qf102, .inl (cf102, 2048, .inl f102)), (qf100, .inl (cf100, 48000, .inl f100)), (qf104, .inl (cf104, 8, .inl f104))]) [1, 0, 2, 3, 4, 5] rfl) hsp
      · rw [if_neg c_2] at hsp
        refine lv_iconst (v := 0) hx hb dX13_fieldsOf_16 (by decide) ?_
        refine lv_goto (tgt := 29) hx hb dX13_fieldsOf_17 (by decide) ?_
        refine lv_iadd hx hb dX13_fieldsOf_29 ?_
        refine lv_istore_n (lv' := [(2, .int (l2_4 + 0)), (3, .int l3_4), (0, .ref h0)]) hx hb dX13_fieldsOf_30 rfl hl (by decide) rfl (fun ls hl => ?_)
        refine lv_aload_n hx hb dX13_fieldsOf_31 rfl (lv_at hl 2 rfl) ?_
        refine lv_iload_n hx hb dX13_fieldsOf_32 rfl (lv_at hl 1 rfl) ?_
        obtain ⟨u2_0, hu_2, hsp⟩ := ox_bind hsp
        try dsimp only at hsp
        have hPc := hP.sub (ws' := [(h0, .inr (13, z4)), (qf105, .inl (cf105, 8, .inl f105)), (qf102, .inl (cf102, 2048, .inl f102)), (qf100, .inl (cf100, 48000, .inl f100)), (qf104, .inl (cf104, 8, .inl f104))]) [0, 2, 3, 4, 5] rfl
        have hDc := hD.sub (ws' := [(h0, .inr (13, z4)), (qf105, .inl (cf105, 8, .inl f105)), (qf102, .inl (cf102, 2048, .inl f102)), (qf100, .inl (cf100, 48000, .inl f100)), (qf104, .inl (cf104, 8, .inl f104))]) [0, 2, 3, 4, 5] (by decide) rfl
        have hKc := hK.sub (tys' := [(cf105, .int), (cf102, .int), (cf100, .int), (cf104, .int)]) [1, 2, 3, 4] rfl
        have hFc := va_free (wc := [(h0, .inr (13, z4)), (qf105, .inl (cf105, 8, .inl f105)), (qf102, .inl (cf102, 2048, .inl f102)), (qf100, .inl (cf100, 48000, .inl f100)), (qf104, .inl (cf104, 8, .inl f104))]) hD hS hA [0, 2, 3, 4, 5] rfl
        refine va_calli (va_runV (As := [.int l3_4]) (rest := []) ⟨hx, hb, hml, hown, hts⟩ (vm_superOf l dC dI H.size h0 z4 l3_4 v98 qf100 qf102 qf104 qf105 cf105 f105 cf102 f102 cf100 f100 cf104 f104 nS477 fS477 hS477 qS477 tS477 nf u2_0 hlh_4 hfh_4_98 hfh_4_100 hfh_4_102 hfh_4_104 hfh_4_105 hu_2) (cwV 1 hts gv_h9_98 rfl rfl rfl (by decide +kernel) ⟨Nat.le_of_ble_eq_true rfl, Nat.le_of_ble_eq_true rfl⟩) ⟨fun a U g mk q => by obtain ⟨q0, q1, qP, qK, qD, qhZWS477, qhZRS477⟩ := q; exact ⟨q0, q1, qP, va_K.moved (u := U) (U := U.calling g mk a) (Vm.Alike.refl U.vm) qK, qD, pz_W.moved (u := U) (U := U.calling g mk a) (Vm.Alike.refl U.vm) qhZWS477, vk_R.same rfl qhZRS477⟩, va_recv hKc hPc (ci := 13) (q0 := 0) rfl rfl, fun U hU hW => ⟨rfl, by rw [hU], by rw [hU]; exact hPc, va_K.moved hW.alike hKc, hDc.weaken (fun _ _ _ _ => trivial), by rw [hU]; exact ((pz_W.moved hW.alike hZWS477).kept hS.2.1).narrow hFc, vk_R.warm hW hZRS477⟩⟩ rfl rfl hl.1 rfl (lv_room (Nat.le_of_ble_eq_true rfl)) dX13_fieldsOf_33 ⟨Nat.le_of_ble_eq_true rfl, Nat.le_of_ble_eq_true rfl⟩) hS (fun q _ h => hFc q h) hFc ?_
        clear hS
        intro r_5 u t H1 locs ht hvm hw hB hz1 hk1 hS
        obtain ⟨z_2, rfl⟩ : ∃ z, z = u := ⟨_, rfl⟩
        obtain ⟨hP1, hK1, hD1⟩ := hB
        rw [ht] at hP1
        have hK1 := va_K.moved hvm.symm hK1
        try dsimp only at hw
        have hPD := va_join (wr := [(qf106, .inl (cf106, 8, .inl f106))]) (w1 := [(h0, .inr (13, z_2)), (qf105, .inl (cf105, 8, .inl f105)), (qf102, .inl (cf102, 2048, .inl f102)), (qf100, .inl (cf100, 48000, .inl f100)), (qf104, .inl (cf104, 8, .inl f104))]) hP hD [0, 2, 3, 4, 5] [1] rfl rfl (by decide) (by decide) hk1 hFc hP1 hD1
        clear hP hD
        obtain ⟨hP, hD⟩ := hPD
        replace hK := (hK.sub (tys' := [(cf106, .int)]) [0] rfl).app hK1
        clear hPc hDc hKc hFc hP1 hK1 hD1 hz1 hk1 ht hvm
        generalize H1 = H at hP hS ⊢
        replace hP : va_P (dC, dI) vwCl [(qf106, .inl (cf106, 8, .inl f106)), (h0, .inr (13, z_2)), (qf105, .inl (cf105, 8, .inl f105)), (qf102, .inl (cf102, 2048, .inl f102)), (qf100, .inl (cf100, 48000, .inl f100)), (qf104, .inl (cf104, 8, .inl f104))] H := hP
        replace hD : va_D A [(qf106, .inl (cf106, 8, .inl f106)), (h0, .inr (13, z_2)), (qf105, .inl (cf105, 8, .inl f105)), (qf102, .inl (cf102, 2048, .inl f102)), (qf100, .inl (cf100, 48000, .inl f100)), (qf104, .inl (cf104, 8, .inl f104))] := hD
        replace hK : va_K (dC, dI) vwCl [(cf106, .int), (cf105, .int), (cf102, .int), (cf100, .int), (cf104, .int)] s := hK
        obtain ⟨hwa_2, hln_2, hre_2⟩ := hw
        have hfk_2_98 : z_2[98]? = some (.int v98) := (hre_2 98 ).trans (hfh_4_98)
        have hfk_2_100 : z_2[100]? = some (.ref qf100) := (hre_2 100 ).trans (hfh_4_100)
        have hfk_2_102 : z_2[102]? = some (.ref qf102) := (hre_2 102 ).trans (hfh_4_102)
        have hfk_2_104 : z_2[104]? = some (.ref qf104) := (hre_2 104 ).trans (hfh_4_104)
        have hfk_2_105 : z_2[105]? = some (.ref qf105) := (hre_2 105 ).trans (hfh_4_105)
        have hfk_2_106 : z_2[106]? = some (.ref qf106) := (hre_2 106 ).trans (hfh_4_106)
        have hrq_2 : ∀ j : Nat, z_2[j]? = zs[j]? := fun j  => (hre_2 j ).trans (hrh_4 j )
        obtain rfl := hwa_2
        refine lv_istore_n (lv' := [(3, .int u2_0), (2, .int (l2_4 + 0)), (0, .ref h0)]) hx hb dX13_fieldsOf_36 rfl hl (by decide) rfl (fun ls hl => ?_)
        refine lv_goto (tgt := 4) hx hb dX13_fieldsOf_37 (by decide) ?_
        exact ih_4 H locs ls z_2 (l2_4 + 0) u2_0 (hfk_2_98) (hfk_2_100) (hfk_2_102) (hfk_2_104) (hfk_2_105) (hfk_2_106) hln_2 hrq_2 (lv_sub hl [0, 1, 2] rfl) hS (hD.sub (ws' := [(h0, .inr (13, z_2)), (qf106, .inl (cf106, 8, .inl f106)), (qf105, .inl (cf105, 8, .inl f105)), (qf102, .inl (cf102, 2048, .inl f102)), (qf100, .inl (cf100, 48000, .inl f100)), (qf104, .inl (cf104, 8, .inl f104))]) [1, 0, 2, 3, 4, 5] (by decide) rfl) (hP.sub (ws' := [(h0, .inr (13, z_2)), (qf106, .inl (cf106, 8, .inl f106)), (qf105, .inl (cf105, 8, .inl f105)), (qf102, .inl (cf102, 2048, .inl f102)), (qf100, .inl (cf100, 48000, .inl f100)), (qf104, .inl (cf104, 8, .inl f104))]) [1, 0, 2, 3, 4, 5] rfl) hsp
def sp_vm_isOne (nf : Nat) (a1 : Int32) (a2 : Int32) (v98 : Int32) (f144 : Nat → Int32) (f105 : Nat → Int32) (f102 : Nat → Int32) (f100 : Nat → Int32) (f104 : Nat → Int32) (nS477 : Nat) (fS477 : Nat → Int32) : Option (Int32) := (if a1 < 0 then none else if 2001 ≤ (a1 : Int32).toNatClampNeg then none else (if (f144 (a1 : Int32).toNatClampNeg) < 99 then (if a1 < 0 then none else if 2001 ≤ (a1 : Int32).toNatClampNeg then none else ((sp_vm_isUnder nf (f144 (a1 : Int32).toNatClampNeg) a2 v98 f105 f102 f100 f104 nS477 fS477).bind (fun p1 => (if p1 = 0 then (some 0) else (some 1))))) else (if a2 = 0 then (some 1) else (some 0))))
set_option maxHeartbeats 4000000 in
set_option maxRecDepth 100000 in
/-- ClassMillModel.isOne -/
theorem vm_isOne (l : Launch) (dC : Nat → ClassId) (dI : Nat → Nat → Nat) (sz : Nat) (h0 : Nat) (zs : (List Value)) (a1 : Int32) (a2 : Int32) (v98 : Int32) (qf100 : Nat) (qf102 : Nat) (qf104 : Nat) (qf105 : Nat) (qf144 : Nat) (cf144 : ClassId) (f144 : (Nat → Int32)) (cf105 : ClassId) (f105 : (Nat → Int32)) (cf102 : ClassId) (f102 : (Nat → Int32)) (cf100 : ClassId) (f100 : (Nat → Int32)) (cf104 : ClassId) (f104 : (Nat → Int32)) (nS477 : Nat) (fS477 : (Nat → Int32)) (hS477 : Nat) (qS477 : Nat) (tS477 : String) (nf : Nat) (r0 : Int32) (hlen : zs.length = 155) (hf98 : zs[98]? = some (.int v98)) (hf100 : zs[100]? = some (.ref qf100)) (hf102 : zs[102]? = some (.ref qf102)) (hf104 : zs[104]? = some (.ref qf104)) (hf105 : zs[105]? = some (.ref qf105)) (hf144 : zs[144]? = some (.ref qf144)) (hsp : sp_vm_isOne nf a1 a2 v98 f144 f105 f102 f100 f104 nS477 fS477 = some r0) : Met l yX13_isOne (.code yX13_isOne cX13_isOne 3 (some .boolean) :: VS_h9) ({ frames := 9, cells := 0, slots := 0, locals := 205 }) (va_Pc [.ref h0, .int a1, .int a2] (fun U => U.heap.size = sz ∧ va_P (dC, dI) vwCl [(h0, .inr (13, zs)), (qf144, .inl (cf144, 2001, .inl f144)), (qf105, .inl (cf105, 8, .inl f105)), (qf102, .inl (cf102, 2048, .inl f102)), (qf100, .inl (cf100, 48000, .inl f100)), (qf104, .inl (cf104, 8, .inl f104))] U.heap ∧ va_K (dC, dI) vwCl [(cf144, .int), (cf105, .int), (cf102, .int), (cf100, .int), (cf104, .int)] U ∧ va_D (fun _ => True) [(h0, .inr (13, zs)), (qf144, .inl (cf144, 2001, .inl f144)), (qf105, .inl (cf105, 8, .inl f105)), (qf102, .inl (cf102, 2048, .inl f102)), (qf100, .inl (cf100, 48000, .inl f100)), (qf104, .inl (cf104, 8, .inl f104))] ∧ pz_W nS477 fS477 hS477 qS477 (va_A [(h0, .inr (13, zs)), (qf144, .inl (cf144, 2001, .inl f144)), (qf105, .inl (cf105, 8, .inl f105)), (qf102, .inl (cf102, 2048, .inl f102)), (qf100, .inl (cf100, 48000, .inl f100)), (qf104, .inl (cf104, 8, .inl f104))] sz) U U.heap ∧ vk_R RX13 477 tS477 hS477 U)) (va_Qi (fun (r : Int32) (u : (List Value)) => match u with | (zo1) => (r0 = r ∧ (r0 = 0 ∨ r0 = 1)) ∧ zo1.length = 155 ∧ (∀ j : Nat, zo1[j]? = zs[j]?)) (fun (u : (List Value)) (t : State) => match u with | (zo1) => va_P (dC, dI) vwCl [(h0, .inr (13, zo1)), (qf144, .inl (cf144, 2001, .inl f144)), (qf105, .inl (cf105, 8, .inl f105)), (qf102, .inl (cf102, 2048, .inl f102)), (qf100, .inl (cf100, 48000, .inl f100)), (qf104, .inl (cf104, 8, .inl f104))] t.heap ∧ va_K (dC, dI) vwCl [(cf144, .int), (cf105, .int), (cf102, .int), (cf100, .int), (cf104, .int)] t ∧ va_D (va_A [(h0, .inr (13, zs)), (qf144, .inl (cf144, 2001, .inl f144)), (qf105, .inl (cf105, 8, .inl f105)), (qf102, .inl (cf102, 2048, .inl f102)), (qf100, .inl (cf100, 48000, .inl f100)), (qf104, .inl (cf104, 8, .inl f104))] sz) [(h0, .inr (13, zo1)), (qf144, .inl (cf144, 2001, .inl f144)), (qf105, .inl (cf105, 8, .inl f105)), (qf102, .inl (cf102, 2048, .inl f102)), (qf100, .inl (cf100, 48000, .inl f100)), (qf104, .inl (cf104, 8, .inl f104))]) (va_A [(h0, .inr (13, zs)), (qf144, .inl (cf144, 2001, .inl f144)), (qf105, .inl (cf105, 8, .inl f105)), (qf102, .inl (cf102, 2048, .inl f102)), (qf100, .inl (cf100, 48000, .inl f100)), (qf104, .inl (cf104, 8, .inl f104))] sz)) 0 0 (va_A [(h0, .inr (13, zs)), (qf144, .inl (cf144, 2001, .inl f144)), (qf105, .inl (cf105, 8, .inl f105)), (qf102, .inl (cf102, 2048, .inl f102)), (qf100, .inl (cf100, 48000, .inl f100)), (qf104, .inl (cf104, 8, .inl f104))] sz) := by
  refine Met.ofW (cc := cX13_isOne) (maxL := 3) (ret := (some .boolean)) (by decide) rfl ?_
  intro p e s m args below meth c s₁ B hml hv
  obtain ⟨rfl, hsz, hP, hK, hD0, hZWS477, hZRS477⟩ := hv
  have hx := B.exec
  have hb := B.bytes
  have hr := B.returns
  have hts := atoms_spec (ws := (.code yX13_isOne cX13_isOne 3 (some .boolean) :: VS_h9)) B.pre
  replace hts := fun w (h : w ∈ VS_h9) => hts w (List.mem_cons_of_mem _ h)
  have hown : s.vm.findClass RX13 = some m.cls := findClass_of_methodNamed B.named
  have hlocks := B.notSynchronized
  subst hsz
  have hD := hD0.self (sz := s.heap.size)
  generalize hAe : va_A [(h0, .inr (13, zs)), (qf144, .inl (cf144, 2001, .inl f144)), (qf105, .inl (cf105, 8, .inl f105)), (qf102, .inl (cf102, 2048, .inl f102)), (qf100, .inl (cf100, 48000, .inl f100)), (qf104, .inl (cf104, 8, .inl f104))] s.heap.size = A at hD hZWS477 ⊢
  have hA : ∀ q : Nat, s.heap.size ≤ q → A q := fun q h => by rw [← hAe]; exact Or.inr h
  have hP : va_P (dC, dI) vwCl [(h0, .inr (13, zs)), (qf144, .inl (cf144, 2001, .inl f144)), (qf105, .inl (cf105, 8, .inl f105)), (qf102, .inl (cf102, 2048, .inl f102)), (qf100, .inl (cf100, 48000, .inl f100)), (qf104, .inl (cf104, 8, .inl f104))] s.heap := hP
  have hl := lv_entry ([.ref h0, .int a1, .int a2]) (n := 3) (Nat.le_of_ble_eq_true rfl)
  rw [lg_entry_eq]
  generalize (lg_sl ([.ref h0, .int a1, .int a2]) ++ List.replicate (3 - (lg_sl ([.ref h0, .int a1, .int a2])).length) Slot.unset).toArray = ls at hl ⊢
  have hl : lv_has ls 3 [(0, .ref h0), (1, .int a1), (2, .int a2)] := hl
  obtain ⟨H, hH⟩ : ∃ H : Heap, s.heap = H := ⟨_, rfl⟩
  rw [hH] at hP ⊢
  have hS : va_S A s.heap H [] := by rw [← hH]; exact va_S.rf
  obtain ⟨locs, hlo⟩ : ∃ locs : List Loc, locs = [] := ⟨_, rfl⟩
  rw [← hlo] at hS ⊢
  have hrs0 : ∀ j : Nat, zs[j]? = zs[j]? := fun _  => rfl
  unfold sp_vm_isOne at hsp
  refine lv_aload_n hx hb dX13_isOne_0 rfl (lv_at hl 0 rfl) ?_
  refine va_get (D := (dC, dI)) (ci := 13) (v := .ref qf144) (C := RX13) (T := TX13) (N := 155) hx hb hts uV_h9_X13 hown hK hP 0 rfl rfl 144 (by decide) (hts (.fieldLink RX13 279 "ClassMillModel" "sort" "[I") mw_h9_371) (fun _ h9 => h9) hf144 dX13_isOne_1 ?_
  refine lv_iload_n hx hb dX13_isOne_4 rfl (lv_at hl 1 rfl) ?_
  obtain ⟨hi_1, hsp⟩ := ox_in hsp
  refine va_iald hx hb hK hP 1 0 rfl rfl (i := a1) hi_1 dX13_isOne_5 ?_
  refine lv_bipush (v := 99) hx hb dX13_isOne_6 (by decide) ?_
  refine lv_icmp_lt (tgt := 23) hx hb dX13_isOne_8 (by decide) (fun c_2 => ?_) (fun c_2 => ?_)
  · rw [if_pos c_2] at hsp
    refine lv_aload_n hx hb dX13_isOne_23 rfl (lv_at hl 0 rfl) ?_
    refine lv_aload_n hx hb dX13_isOne_24 rfl (lv_at hl 0 rfl) ?_
    refine va_get (D := (dC, dI)) (ci := 13) (v := .ref qf144) (C := RX13) (T := TX13) (N := 155) hx hb hts uV_h9_X13 hown hK hP 0 rfl rfl 144 (by decide) (hts (.fieldLink RX13 279 "ClassMillModel" "sort" "[I") mw_h9_371) (fun _ h9 => h9) hf144 dX13_isOne_25 ?_
    refine lv_iload_n hx hb dX13_isOne_28 rfl (lv_at hl 1 rfl) ?_
    obtain ⟨hi_3, hsp⟩ := ox_in hsp
    refine va_iald hx hb hK hP 1 0 rfl rfl (i := a1) hi_3 dX13_isOne_29 ?_
    refine lv_iload_n hx hb dX13_isOne_30 rfl (lv_at hl 2 rfl) ?_
    obtain ⟨u1_0, hu_1, hsp⟩ := ox_bind hsp
    try dsimp only at hsp
    have hPc := hP.sub (ws' := [(h0, .inr (13, zs)), (qf105, .inl (cf105, 8, .inl f105)), (qf102, .inl (cf102, 2048, .inl f102)), (qf100, .inl (cf100, 48000, .inl f100)), (qf104, .inl (cf104, 8, .inl f104))]) [0, 2, 3, 4, 5] rfl
    have hDc := hD.sub (ws' := [(h0, .inr (13, zs)), (qf105, .inl (cf105, 8, .inl f105)), (qf102, .inl (cf102, 2048, .inl f102)), (qf100, .inl (cf100, 48000, .inl f100)), (qf104, .inl (cf104, 8, .inl f104))]) [0, 2, 3, 4, 5] (by decide) rfl
    have hKc := hK.sub (tys' := [(cf105, .int), (cf102, .int), (cf100, .int), (cf104, .int)]) [1, 2, 3, 4] rfl
    have hFc := va_free (wc := [(h0, .inr (13, zs)), (qf105, .inl (cf105, 8, .inl f105)), (qf102, .inl (cf102, 2048, .inl f102)), (qf100, .inl (cf100, 48000, .inl f100)), (qf104, .inl (cf104, 8, .inl f104))]) hD hS hA [0, 2, 3, 4, 5] rfl
    refine va_calli (va_runV (As := [.int (f144 (a1 : Int32).toNatClampNeg), .int a2]) (rest := []) ⟨hx, hb, hml, hown, hts⟩ (vm_isUnder l dC dI H.size h0 zs ((f144 (a1 : Int32).toNatClampNeg)) a2 v98 qf100 qf102 qf104 qf105 cf105 f105 cf102 f102 cf100 f100 cf104 f104 nS477 fS477 hS477 qS477 tS477 nf u1_0 hlen hf98 hf100 hf102 hf104 hf105 hu_1) (cwV 2 hts gv_h9_101 rfl rfl rfl (by decide +kernel) ⟨Nat.le_of_ble_eq_true rfl, Nat.le_of_ble_eq_true rfl⟩) ⟨fun a U g mk q => by obtain ⟨q0, q1, qP, qK, qD, qhZWS477, qhZRS477⟩ := q; exact ⟨q0, q1, qP, va_K.moved (u := U) (U := U.calling g mk a) (Vm.Alike.refl U.vm) qK, qD, pz_W.moved (u := U) (U := U.calling g mk a) (Vm.Alike.refl U.vm) qhZWS477, vk_R.same rfl qhZRS477⟩, va_recv hKc hPc (ci := 13) (q0 := 0) rfl rfl, fun U hU hW => ⟨rfl, by rw [hU], by rw [hU]; exact hPc, va_K.moved hW.alike hKc, hDc.weaken (fun _ _ _ _ => trivial), by rw [hU]; exact ((pz_W.moved hW.alike hZWS477).kept hS.2.1).narrow hFc, vk_R.warm hW hZRS477⟩⟩ rfl rfl hl.1 rfl (lv_room (Nat.le_of_ble_eq_true rfl)) dX13_isOne_31 ⟨Nat.le_of_ble_eq_true rfl, Nat.le_of_ble_eq_true rfl⟩) hS (fun q _ h => hFc q h) hFc ?_
    clear hS
    intro r_4 u t H1 locs ht hvm hw hB hz1 hk1 hS
    obtain ⟨z_1, rfl⟩ : ∃ z, z = u := ⟨_, rfl⟩
    obtain ⟨hP1, hK1, hD1⟩ := hB
    rw [ht] at hP1
    have hK1 := va_K.moved hvm.symm hK1
    try dsimp only at hw
    have hPD := va_join (wr := [(qf144, .inl (cf144, 2001, .inl f144))]) (w1 := [(h0, .inr (13, z_1)), (qf105, .inl (cf105, 8, .inl f105)), (qf102, .inl (cf102, 2048, .inl f102)), (qf100, .inl (cf100, 48000, .inl f100)), (qf104, .inl (cf104, 8, .inl f104))]) hP hD [0, 2, 3, 4, 5] [1] rfl rfl (by decide) (by decide) hk1 hFc hP1 hD1
    clear hP hD
    obtain ⟨hP, hD⟩ := hPD
    replace hK := (hK.sub (tys' := [(cf144, .int)]) [0] rfl).app hK1
    clear hPc hDc hKc hFc hP1 hK1 hD1 hz1 hk1 ht hvm
    generalize H1 = H at hP hS ⊢
    replace hP : va_P (dC, dI) vwCl [(qf144, .inl (cf144, 2001, .inl f144)), (h0, .inr (13, z_1)), (qf105, .inl (cf105, 8, .inl f105)), (qf102, .inl (cf102, 2048, .inl f102)), (qf100, .inl (cf100, 48000, .inl f100)), (qf104, .inl (cf104, 8, .inl f104))] H := hP
    replace hD : va_D A [(qf144, .inl (cf144, 2001, .inl f144)), (h0, .inr (13, z_1)), (qf105, .inl (cf105, 8, .inl f105)), (qf102, .inl (cf102, 2048, .inl f102)), (qf100, .inl (cf100, 48000, .inl f100)), (qf104, .inl (cf104, 8, .inl f104))] := hD
    replace hK : va_K (dC, dI) vwCl [(cf144, .int), (cf105, .int), (cf102, .int), (cf100, .int), (cf104, .int)] s := hK
    obtain ⟨hwa_1, hln_1, hre_1⟩ := hw
    have hfk_1_98 : z_1[98]? = some (.int v98) := (hre_1 98 ).trans (hf98)
    have hfk_1_100 : z_1[100]? = some (.ref qf100) := (hre_1 100 ).trans (hf100)
    have hfk_1_102 : z_1[102]? = some (.ref qf102) := (hre_1 102 ).trans (hf102)
    have hfk_1_104 : z_1[104]? = some (.ref qf104) := (hre_1 104 ).trans (hf104)
    have hfk_1_105 : z_1[105]? = some (.ref qf105) := (hre_1 105 ).trans (hf105)
    have hfk_1_144 : z_1[144]? = some (.ref qf144) := (hre_1 144 ).trans (hf144)
    have hrq_1 : ∀ j : Nat, z_1[j]? = zs[j]? := fun j  => (hre_1 j ).trans (hrs0 j )
    obtain ⟨rfl, hz_1⟩ := hwa_1
    rcases hz_1 with rfl | rfl
    · rw [if_pos rfl] at hsp
      have hr0 := Option.some.inj hsp
      clear hsp
      subst hr0
      have hP9 := hP.sub (ws' := [(h0, .inr (13, z_1)), (qf144, .inl (cf144, 2001, .inl f144)), (qf105, .inl (cf105, 8, .inl f105)), (qf102, .inl (cf102, 2048, .inl f102)), (qf100, .inl (cf100, 48000, .inl f100)), (qf104, .inl (cf104, 8, .inl f104))]) [1, 0, 2, 3, 4, 5] rfl
      have hD9 := hD.sub (ws' := [(h0, .inr (13, z_1)), (qf144, .inl (cf144, 2001, .inl f144)), (qf105, .inl (cf105, 8, .inl f105)), (qf102, .inl (cf102, 2048, .inl f102)), (qf100, .inl (cf100, 48000, .inl f100)), (qf104, .inl (cf104, 8, .inl f104))]) [1, 0, 2, 3, 4, 5] (by decide) rfl
      have hK9 := hK.sub (tys' := [(cf144, .int), (cf105, .int), (cf102, .int), (cf100, .int), (cf104, .int)]) [0, 1, 2, 3, 4] rfl
      exact W.zret hx hb hr (by decide) (fun t ht hW => ⟨⟨(0), (z_1), rfl, ⟨⟨rfl, Or.inl rfl⟩, hln_1, hrq_1⟩, by rw [ht]; exact hP9, va_K.moved hW.alike hK9, hD9⟩, hS.F ht⟩) hS.2.2 dX13_isOne_34
    · rw [if_neg (by decide)] at hsp
      have hr0 := Option.some.inj hsp
      clear hsp
      subst hr0
      have hP9 := hP.sub (ws' := [(h0, .inr (13, z_1)), (qf144, .inl (cf144, 2001, .inl f144)), (qf105, .inl (cf105, 8, .inl f105)), (qf102, .inl (cf102, 2048, .inl f102)), (qf100, .inl (cf100, 48000, .inl f100)), (qf104, .inl (cf104, 8, .inl f104))]) [1, 0, 2, 3, 4, 5] rfl
      have hD9 := hD.sub (ws' := [(h0, .inr (13, z_1)), (qf144, .inl (cf144, 2001, .inl f144)), (qf105, .inl (cf105, 8, .inl f105)), (qf102, .inl (cf102, 2048, .inl f102)), (qf100, .inl (cf100, 48000, .inl f100)), (qf104, .inl (cf104, 8, .inl f104))]) [1, 0, 2, 3, 4, 5] (by decide) rfl
      have hK9 := hK.sub (tys' := [(cf144, .int), (cf105, .int), (cf102, .int), (cf100, .int), (cf104, .int)]) [0, 1, 2, 3, 4] rfl
      exact W.zret hx hb hr (by decide) (fun t ht hW => ⟨⟨(1), (z_1), rfl, ⟨⟨rfl, Or.inr rfl⟩, hln_1, hrq_1⟩, by rw [ht]; exact hP9, va_K.moved hW.alike hK9, hD9⟩, hS.F ht⟩) hS.2.2 dX13_isOne_34
  · rw [if_neg c_2] at hsp
    refine lv_iload_n hx hb dX13_isOne_11 rfl (lv_at hl 2 rfl) ?_
    refine lv_if_ne (tgt := 19) hx hb dX13_isOne_12 (by decide) (fun c_5 => ?_) (fun c_5 => ?_)
    · rw [if_neg c_5] at hsp
      refine lv_iconst (v := 0) hx hb dX13_isOne_19 (by decide) ?_
      refine lv_goto (tgt := 34) hx hb dX13_isOne_20 (by decide) ?_
      have hr0 := Option.some.inj hsp
      clear hsp
      subst hr0
      have hP9 := hP.sub (ws' := [(h0, .inr (13, zs)), (qf144, .inl (cf144, 2001, .inl f144)), (qf105, .inl (cf105, 8, .inl f105)), (qf102, .inl (cf102, 2048, .inl f102)), (qf100, .inl (cf100, 48000, .inl f100)), (qf104, .inl (cf104, 8, .inl f104))]) [0, 1, 2, 3, 4, 5] rfl
      have hD9 := hD.sub (ws' := [(h0, .inr (13, zs)), (qf144, .inl (cf144, 2001, .inl f144)), (qf105, .inl (cf105, 8, .inl f105)), (qf102, .inl (cf102, 2048, .inl f102)), (qf100, .inl (cf100, 48000, .inl f100)), (qf104, .inl (cf104, 8, .inl f104))]) [0, 1, 2, 3, 4, 5] (by decide) rfl
      have hK9 := hK.sub (tys' := [(cf144, .int), (cf105, .int), (cf102, .int), (cf100, .int), (cf104, .int)]) [0, 1, 2, 3, 4] rfl
      exact W.zret hx hb hr (by decide) (fun t ht hW => ⟨⟨(0), (zs), rfl, ⟨⟨rfl, Or.inl rfl⟩, hlen, hrs0⟩, by rw [ht]; exact hP9, va_K.moved hW.alike hK9, hD9⟩, hS.F ht⟩) hS.2.2 dX13_isOne_34
    · rw [if_pos c_5] at hsp
      refine lv_iconst (v := 1) hx hb dX13_isOne_15 (by decide) ?_
      refine lv_goto (tgt := 34) hx hb dX13_isOne_16 (by decide) ?_
      have hr0 := Option.some.inj hsp
      clear hsp
      subst hr0
      have hP9 := hP.sub (ws' := [(h0, .inr (13, zs)), (qf144, .inl (cf144, 2001, .inl f144)), (qf105, .inl (cf105, 8, .inl f105)), (qf102, .inl (cf102, 2048, .inl f102)), (qf100, .inl (cf100, 48000, .inl f100)), (qf104, .inl (cf104, 8, .inl f104))]) [0, 1, 2, 3, 4, 5] rfl
      have hD9 := hD.sub (ws' := [(h0, .inr (13, zs)), (qf144, .inl (cf144, 2001, .inl f144)), (qf105, .inl (cf105, 8, .inl f105)), (qf102, .inl (cf102, 2048, .inl f102)), (qf100, .inl (cf100, 48000, .inl f100)), (qf104, .inl (cf104, 8, .inl f104))]) [0, 1, 2, 3, 4, 5] (by decide) rfl
      have hK9 := hK.sub (tys' := [(cf144, .int), (cf105, .int), (cf102, .int), (cf100, .int), (cf104, .int)]) [0, 1, 2, 3, 4] rfl
      exact W.zret hx hb hr (by decide) (fun t ht hW => ⟨⟨(1), (zs), rfl, ⟨⟨rfl, Or.inr rfl⟩, hlen, hrs0⟩, by rw [ht]; exact hP9, va_K.moved hW.alike hK9, hD9⟩, hS.F ht⟩) hS.2.2 dX13_isOne_34
def lp_vm_thrown_45 (nf n : Nat) (a1 : Int32) (v98 : Int32) (v138 : Int32) (v139 : Int32) (v149 : Int32) (f144 : Nat → Int32) (f150 : Nat → Int32) (f151 : Nat → Int32) (f110 : Nat → Int32) (f100 : Nat → Int32) (f152 : Nat → Int32) (f102 : Nat → Int32) (f104 : Nat → Int32) (f105 : Nat → Int32) (f153 : Nat → Int32) (f154 : Nat → Int32) (nS477 : Nat) (fS477 : Nat → Int32) (kk_0 : Int32 → (Nat → Int32) → (Nat → Int32) → (Nat → Int32) → Int32 → Int32 → Int32 → Option ((Nat → Int32) × (Nat → Int32) × (Nat → Int32) × Int32 × Int32 × Int32)) (l1_45 : Int32) (l2_45 : Int32) (l3_45 : Int32) (l4_45 : Int32) (l5_45 : Int32) (g152_45 : Nat → Int32) (g153_45 : Nat → Int32) (g154_45 : Nat → Int32) (x138_45 : Int32) (x139_45 : Int32) (x149_45 : Int32) : Option ((Nat → Int32) × (Nat → Int32) × (Nat → Int32) × Int32 × Int32 × Int32) := match n with
  | 0 => none
  | n + 1 => ((sp_tm_byteAt nf l3_45 l4_45 f100).bind (fun p1 => (if p1 ≤ l5_45 then (kk_0 l1_45 g152_45 g153_45 g154_45 x138_45 x139_45 (x149_45 - 1)) else ((sp_tm_byteAt nf l3_45 ((l4_45 + 1) + (7 * l5_45)) f100).bind (fun p2 => ((sp_tm_byteAt nf l3_45 (((l4_45 + 1) + (7 * l5_45)) + 1) f100).bind (fun p3 => ((sp_tm_byteAt nf l3_45 (((l4_45 + 1) + (7 * l5_45)) + 2) f100).bind (fun p4 => ((sp_tm_byteAt nf l3_45 (((l4_45 + 1) + (7 * l5_45)) + 3) f100).bind (fun p5 => (if l2_45 < 0 then none else if 60 ≤ (l2_45 : Int32).toNatClampNeg then none else (if (g152_45 (l2_45 : Int32).toNatClampNeg) < ((p2 <<< (8 &&& 31)) ||| p3) then (lp_vm_thrown_45 nf n a1 v98 v138 v139 v149 f144 f150 f151 f110 f100 f152 f102 f104 f105 f153 f154 nS477 fS477 kk_0 l1_45 l2_45 l3_45 l4_45 (l5_45 + 1) g152_45 g153_45 g154_45 x138_45 x139_45 x149_45) else (if l2_45 < 0 then none else if 60 ≤ (l2_45 : Int32).toNatClampNeg then none else (if ((p4 <<< (8 &&& 31)) ||| p5) ≤ (g152_45 (l2_45 : Int32).toNatClampNeg) then (lp_vm_thrown_45 nf n a1 v98 v138 v139 v149 f144 f150 f151 f110 f100 f152 f102 f104 f105 f153 f154 nS477 fS477 kk_0 l1_45 l2_45 l3_45 l4_45 (l5_45 + 1) g152_45 g153_45 g154_45 x138_45 x139_45 x149_45) else ((sp_tm_byteAt nf l3_45 (((l4_45 + 1) + (7 * l5_45)) + 6) f100).bind (fun p6 => ((sp_tm_textOfClass nf l3_45 p6 f102 f100).bind (fun p7 => ((sp_vm_classAtText nf l3_45 p7 v98 f102 f100 f104 nS477 fS477).bind (fun p8 => ((sp_vm_isOne nf l1_45 p8 v98 f144 f105 f102 f100 f104 nS477 fS477).bind (fun p9 => (if p9 = 0 then (lp_vm_thrown_45 nf n a1 v98 v138 v139 v149 f144 f150 f151 f110 f100 f152 f102 f104 f105 f153 f154 nS477 fS477 kk_0 l1_45 l2_45 l3_45 l4_45 (l5_45 + 1) g152_45 g153_45 g154_45 x138_45 x139_45 x149_45) else ((sp_tm_byteAt nf l3_45 (((l4_45 + 1) + (7 * l5_45)) + 4) f100).bind (fun p10 => ((sp_tm_byteAt nf l3_45 (((l4_45 + 1) + (7 * l5_45)) + 5) f100).bind (fun p11 => (if l2_45 < 0 then none else if 60 ≤ (l2_45 : Int32).toNatClampNeg then none else (if l2_45 < 0 then none else if 60 ≤ (l2_45 : Int32).toNatClampNeg then none else ((sp_tm_give nf l1_45 x149_45 (upd g153_45 (l2_45 : Int32).toNatClampNeg 0) g154_45).bind (fun p12 => (some ((upd g152_45 (l2_45 : Int32).toNatClampNeg ((p10 <<< (8 &&& 31)) ||| p11)), p12.1, p12.2, x138_45, x139_45, x149_45))))))))))))))))))))))))))))))))))
def lp_vm_thrown_0 (nf n : Nat) (a1 : Int32) (v98 : Int32) (v138 : Int32) (v139 : Int32) (v149 : Int32) (f144 : Nat → Int32) (f150 : Nat → Int32) (f151 : Nat → Int32) (f110 : Nat → Int32) (f100 : Nat → Int32) (f152 : Nat → Int32) (f102 : Nat → Int32) (f104 : Nat → Int32) (f105 : Nat → Int32) (f153 : Nat → Int32) (f154 : Nat → Int32) (nS477 : Nat) (fS477 : Nat → Int32)  (l1_0 : Int32) (g152_0 : Nat → Int32) (g153_0 : Nat → Int32) (g154_0 : Nat → Int32) (x138_0 : Int32) (x139_0 : Int32) (x149_0 : Int32) : Option ((Nat → Int32) × (Nat → Int32) × (Nat → Int32) × Int32 × Int32 × Int32) := match n with
  | 0 => none
  | n + 1 => (if x149_0 ≤ 0 then (if l1_0 < 0 then none else if 2001 ≤ (l1_0 : Int32).toNatClampNeg then none else (some (g152_0, g153_0, g154_0, 3, (f144 (l1_0 : Int32).toNatClampNeg), x149_0))) else (if (x149_0 - 1) < 0 then none else if 60 ≤ ((x149_0 - 1) : Int32).toNatClampNeg then none else (if (x149_0 - 1) < 0 then none else if 60 ≤ ((x149_0 - 1) : Int32).toNatClampNeg then none else (if ((12 * ((f150 ((x149_0 - 1) : Int32).toNatClampNeg) - 8)) + (f151 ((x149_0 - 1) : Int32).toNatClampNeg)) < 0 then none else if 96 ≤ (((12 * ((f150 ((x149_0 - 1) : Int32).toNatClampNeg) - 8)) + (f151 ((x149_0 - 1) : Int32).toNatClampNeg)) : Int32).toNatClampNeg then none else (lp_vm_thrown_45 nf nf a1 v98 v138 v139 v149 f144 f150 f151 f110 f100 f152 f102 f104 f105 f153 f154 nS477 fS477 (lp_vm_thrown_0 nf n a1 v98 v138 v139 v149 f144 f150 f151 f110 f100 f152 f102 f104 f105 f153 f154 nS477 fS477) l1_0 (x149_0 - 1) ((f150 ((x149_0 - 1) : Int32).toNatClampNeg) - 8) (f110 (((12 * ((f150 ((x149_0 - 1) : Int32).toNatClampNeg) - 8)) + (f151 ((x149_0 - 1) : Int32).toNatClampNeg)) : Int32).toNatClampNeg) 0 g152_0 g153_0 g154_0 x138_0 x139_0 x149_0)))))
def sp_vm_thrown (nf : Nat) (a1 : Int32) (v98 : Int32) (v138 : Int32) (v139 : Int32) (v149 : Int32) (f144 : Nat → Int32) (f150 : Nat → Int32) (f151 : Nat → Int32) (f110 : Nat → Int32) (f100 : Nat → Int32) (f152 : Nat → Int32) (f102 : Nat → Int32) (f104 : Nat → Int32) (f105 : Nat → Int32) (f153 : Nat → Int32) (f154 : Nat → Int32) (nS477 : Nat) (fS477 : Nat → Int32) : Option ((Nat → Int32) × (Nat → Int32) × (Nat → Int32) × Int32 × Int32 × Int32) := (lp_vm_thrown_0 nf nf a1 v98 v138 v139 v149 f144 f150 f151 f110 f100 f152 f102 f104 f105 f153 f154 nS477 fS477  a1 f152 f153 f154 v138 v139 v149)
set_option maxHeartbeats 4000000 in
set_option maxRecDepth 100000 in
/-- ClassMillModel.thrown -/
theorem vm_thrown (l : Launch) (dC : Nat → ClassId) (dI : Nat → Nat → Nat) (sz : Nat) (h0 : Nat) (zs : (List Value)) (a1 : Int32) (v98 : Int32) (qf100 : Nat) (qf102 : Nat) (qf104 : Nat) (qf105 : Nat) (qf110 : Nat) (v138 : Int32) (v139 : Int32) (qf144 : Nat) (v149 : Int32) (qf150 : Nat) (qf151 : Nat) (qf152 : Nat) (qf153 : Nat) (qf154 : Nat) (cf144 : ClassId) (f144 : (Nat → Int32)) (cf150 : ClassId) (f150 : (Nat → Int32)) (cf151 : ClassId) (f151 : (Nat → Int32)) (cf110 : ClassId) (f110 : (Nat → Int32)) (cf100 : ClassId) (f100 : (Nat → Int32)) (cf152 : ClassId) (f152 : (Nat → Int32)) (cf102 : ClassId) (f102 : (Nat → Int32)) (cf104 : ClassId) (f104 : (Nat → Int32)) (cf105 : ClassId) (f105 : (Nat → Int32)) (cf153 : ClassId) (f153 : (Nat → Int32)) (cf154 : ClassId) (f154 : (Nat → Int32)) (nS477 : Nat) (fS477 : (Nat → Int32)) (hS477 : Nat) (qS477 : Nat) (tS477 : String) (nf : Nat) (o152 : (Nat → Int32)) (o153 : (Nat → Int32)) (o154 : (Nat → Int32)) (w138 : Int32) (w139 : Int32) (w149 : Int32) (hlen : zs.length = 155) (hf98 : zs[98]? = some (.int v98)) (hf100 : zs[100]? = some (.ref qf100)) (hf102 : zs[102]? = some (.ref qf102)) (hf104 : zs[104]? = some (.ref qf104)) (hf105 : zs[105]? = some (.ref qf105)) (hf110 : zs[110]? = some (.ref qf110)) (hf138 : zs[138]? = some (.int v138)) (hf139 : zs[139]? = some (.int v139)) (hf144 : zs[144]? = some (.ref qf144)) (hf149 : zs[149]? = some (.int v149)) (hf150 : zs[150]? = some (.ref qf150)) (hf151 : zs[151]? = some (.ref qf151)) (hf152 : zs[152]? = some (.ref qf152)) (hf153 : zs[153]? = some (.ref qf153)) (hf154 : zs[154]? = some (.ref qf154)) (hsp : sp_vm_thrown nf a1 v98 v138 v139 v149 f144 f150 f151 f110 f100 f152 f102 f104 f105 f153 f154 nS477 fS477 = some (o152, o153, o154, w138, w139, w149)) : Met l yX13_thrown (.code yX13_thrown cX13_thrown 9 none :: VS_h9) ({ frames := 10, cells := 0, slots := 0, locals := 227 }) (va_Pc [.ref h0, .int a1] (fun U => U.heap.size = sz ∧ va_P (dC, dI) vwCl [(h0, .inr (13, zs)), (qf144, .inl (cf144, 2001, .inl f144)), (qf150, .inl (cf150, 60, .inl f150)), (qf151, .inl (cf151, 60, .inl f151)), (qf110, .inl (cf110, 96, .inl f110)), (qf100, .inl (cf100, 48000, .inl f100)), (qf152, .inl (cf152, 60, .inl f152)), (qf102, .inl (cf102, 2048, .inl f102)), (qf104, .inl (cf104, 8, .inl f104)), (qf105, .inl (cf105, 8, .inl f105)), (qf153, .inl (cf153, 60, .inl f153)), (qf154, .inl (cf154, 3600, .inl f154))] U.heap ∧ va_K (dC, dI) vwCl [(cf144, .int), (cf150, .int), (cf151, .int), (cf110, .int), (cf100, .int), (cf152, .int), (cf102, .int), (cf104, .int), (cf105, .int), (cf153, .int), (cf154, .int)] U ∧ va_D (fun _ => True) [(h0, .inr (13, zs)), (qf144, .inl (cf144, 2001, .inl f144)), (qf150, .inl (cf150, 60, .inl f150)), (qf151, .inl (cf151, 60, .inl f151)), (qf110, .inl (cf110, 96, .inl f110)), (qf100, .inl (cf100, 48000, .inl f100)), (qf152, .inl (cf152, 60, .inl f152)), (qf102, .inl (cf102, 2048, .inl f102)), (qf104, .inl (cf104, 8, .inl f104)), (qf105, .inl (cf105, 8, .inl f105)), (qf153, .inl (cf153, 60, .inl f153)), (qf154, .inl (cf154, 3600, .inl f154))] ∧ pz_W nS477 fS477 hS477 qS477 (va_A [(h0, .inr (13, zs)), (qf144, .inl (cf144, 2001, .inl f144)), (qf150, .inl (cf150, 60, .inl f150)), (qf151, .inl (cf151, 60, .inl f151)), (qf110, .inl (cf110, 96, .inl f110)), (qf100, .inl (cf100, 48000, .inl f100)), (qf152, .inl (cf152, 60, .inl f152)), (qf102, .inl (cf102, 2048, .inl f102)), (qf104, .inl (cf104, 8, .inl f104)), (qf105, .inl (cf105, 8, .inl f105)), (qf153, .inl (cf153, 60, .inl f153)), (qf154, .inl (cf154, 3600, .inl f154))] sz) U U.heap ∧ vk_R RX13 477 tS477 hS477 U)) (va_Qv (fun (u : (List Value)) => match u with | (zo1) => True ∧ zo1.length = 155 ∧ (∀ j : Nat, j ≠ 138 → j ≠ 139 → j ≠ 149 → zo1[j]? = zs[j]?) ∧ zo1[138]? = some (.int w138) ∧ zo1[139]? = some (.int w139) ∧ zo1[149]? = some (.int w149)) (fun (u : (List Value)) (t : State) => match u with | (zo1) => va_P (dC, dI) vwCl [(h0, .inr (13, zo1)), (qf144, .inl (cf144, 2001, .inl f144)), (qf150, .inl (cf150, 60, .inl f150)), (qf151, .inl (cf151, 60, .inl f151)), (qf110, .inl (cf110, 96, .inl f110)), (qf100, .inl (cf100, 48000, .inl f100)), (qf152, .inl (cf152, 60, .inl o152)), (qf102, .inl (cf102, 2048, .inl f102)), (qf104, .inl (cf104, 8, .inl f104)), (qf105, .inl (cf105, 8, .inl f105)), (qf153, .inl (cf153, 60, .inl o153)), (qf154, .inl (cf154, 3600, .inl o154))] t.heap ∧ va_K (dC, dI) vwCl [(cf144, .int), (cf150, .int), (cf151, .int), (cf110, .int), (cf100, .int), (cf152, .int), (cf102, .int), (cf104, .int), (cf105, .int), (cf153, .int), (cf154, .int)] t ∧ va_D (va_A [(h0, .inr (13, zs)), (qf144, .inl (cf144, 2001, .inl f144)), (qf150, .inl (cf150, 60, .inl f150)), (qf151, .inl (cf151, 60, .inl f151)), (qf110, .inl (cf110, 96, .inl f110)), (qf100, .inl (cf100, 48000, .inl f100)), (qf152, .inl (cf152, 60, .inl f152)), (qf102, .inl (cf102, 2048, .inl f102)), (qf104, .inl (cf104, 8, .inl f104)), (qf105, .inl (cf105, 8, .inl f105)), (qf153, .inl (cf153, 60, .inl f153)), (qf154, .inl (cf154, 3600, .inl f154))] sz) [(h0, .inr (13, zo1)), (qf144, .inl (cf144, 2001, .inl f144)), (qf150, .inl (cf150, 60, .inl f150)), (qf151, .inl (cf151, 60, .inl f151)), (qf110, .inl (cf110, 96, .inl f110)), (qf100, .inl (cf100, 48000, .inl f100)), (qf152, .inl (cf152, 60, .inl o152)), (qf102, .inl (cf102, 2048, .inl f102)), (qf104, .inl (cf104, 8, .inl f104)), (qf105, .inl (cf105, 8, .inl f105)), (qf153, .inl (cf153, 60, .inl o153)), (qf154, .inl (cf154, 3600, .inl o154))]) (va_A [(h0, .inr (13, zs)), (qf144, .inl (cf144, 2001, .inl f144)), (qf150, .inl (cf150, 60, .inl f150)), (qf151, .inl (cf151, 60, .inl f151)), (qf110, .inl (cf110, 96, .inl f110)), (qf100, .inl (cf100, 48000, .inl f100)), (qf152, .inl (cf152, 60, .inl f152)), (qf102, .inl (cf102, 2048, .inl f102)), (qf104, .inl (cf104, 8, .inl f104)), (qf105, .inl (cf105, 8, .inl f105)), (qf153, .inl (cf153, 60, .inl f153)), (qf154, .inl (cf154, 3600, .inl f154))] sz)) 0 0 (va_A [(h0, .inr (13, zs)), (qf144, .inl (cf144, 2001, .inl f144)), (qf150, .inl (cf150, 60, .inl f150)), (qf151, .inl (cf151, 60, .inl f151)), (qf110, .inl (cf110, 96, .inl f110)), (qf100, .inl (cf100, 48000, .inl f100)), (qf152, .inl (cf152, 60, .inl f152)), (qf102, .inl (cf102, 2048, .inl f102)), (qf104, .inl (cf104, 8, .inl f104)), (qf105, .inl (cf105, 8, .inl f105)), (qf153, .inl (cf153, 60, .inl f153)), (qf154, .inl (cf154, 3600, .inl f154))] sz) := by
  refine Met.ofW (cc := cX13_thrown) (maxL := 9) (ret := none) (by decide) rfl ?_
  intro p e s m args below meth c s₁ B hml hv
  obtain ⟨rfl, hsz, hP, hK, hD0, hZWS477, hZRS477⟩ := hv
  have hx := B.exec
  have hb := B.bytes
  have hr := B.returns
  have hts := atoms_spec (ws := (.code yX13_thrown cX13_thrown 9 none :: VS_h9)) B.pre
  replace hts := fun w (h : w ∈ VS_h9) => hts w (List.mem_cons_of_mem _ h)
  have hown : s.vm.findClass RX13 = some m.cls := findClass_of_methodNamed B.named
  have hlocks := B.notSynchronized
  subst hsz
  have hD := hD0.self (sz := s.heap.size)
  generalize hAe : va_A [(h0, .inr (13, zs)), (qf144, .inl (cf144, 2001, .inl f144)), (qf150, .inl (cf150, 60, .inl f150)), (qf151, .inl (cf151, 60, .inl f151)), (qf110, .inl (cf110, 96, .inl f110)), (qf100, .inl (cf100, 48000, .inl f100)), (qf152, .inl (cf152, 60, .inl f152)), (qf102, .inl (cf102, 2048, .inl f102)), (qf104, .inl (cf104, 8, .inl f104)), (qf105, .inl (cf105, 8, .inl f105)), (qf153, .inl (cf153, 60, .inl f153)), (qf154, .inl (cf154, 3600, .inl f154))] s.heap.size = A at hD hZWS477 ⊢
  have hA : ∀ q : Nat, s.heap.size ≤ q → A q := fun q h => by rw [← hAe]; exact Or.inr h
  have hP : va_P (dC, dI) vwCl [(h0, .inr (13, zs)), (qf144, .inl (cf144, 2001, .inl f144)), (qf150, .inl (cf150, 60, .inl f150)), (qf151, .inl (cf151, 60, .inl f151)), (qf110, .inl (cf110, 96, .inl f110)), (qf100, .inl (cf100, 48000, .inl f100)), (qf152, .inl (cf152, 60, .inl f152)), (qf102, .inl (cf102, 2048, .inl f102)), (qf104, .inl (cf104, 8, .inl f104)), (qf105, .inl (cf105, 8, .inl f105)), (qf153, .inl (cf153, 60, .inl f153)), (qf154, .inl (cf154, 3600, .inl f154))] s.heap := hP
  have hl := lv_entry ([.ref h0, .int a1]) (n := 9) (Nat.le_of_ble_eq_true rfl)
  rw [lg_entry_eq]
  generalize (lg_sl ([.ref h0, .int a1]) ++ List.replicate (9 - (lg_sl ([.ref h0, .int a1])).length) Slot.unset).toArray = ls at hl ⊢
  have hl : lv_has ls 9 [(0, .ref h0), (1, .int a1)] := hl
  obtain ⟨H, hH⟩ : ∃ H : Heap, s.heap = H := ⟨_, rfl⟩
  rw [hH] at hP ⊢
  have hS : va_S A s.heap H [] := by rw [← hH]; exact va_S.rf
  obtain ⟨locs, hlo⟩ : ∃ locs : List Loc, locs = [] := ⟨_, rfl⟩
  rw [← hlo] at hS ⊢
  have hrs0 : ∀ j : Nat, j ≠ 138 → j ≠ 139 → j ≠ 149 → zs[j]? = zs[j]? := fun _ _ _ _  => rfl
  unfold sp_vm_thrown at hsp
  replace hl : lv_has ls 9 [(0, .ref h0), (1, .int a1)] := lv_sub hl [0, 1] rfl
  replace hP := hP.sub (ws' := [(h0, .inr (13, zs)), (qf144, .inl (cf144, 2001, .inl f144)), (qf150, .inl (cf150, 60, .inl f150)), (qf151, .inl (cf151, 60, .inl f151)), (qf110, .inl (cf110, 96, .inl f110)), (qf100, .inl (cf100, 48000, .inl f100)), (qf152, .inl (cf152, 60, .inl f152)), (qf102, .inl (cf102, 2048, .inl f102)), (qf104, .inl (cf104, 8, .inl f104)), (qf105, .inl (cf105, 8, .inl f105)), (qf153, .inl (cf153, 60, .inl f153)), (qf154, .inl (cf154, 3600, .inl f154))]) [0, 1, 2, 3, 4, 5, 6, 7, 8, 9, 10, 11] rfl
  replace hD := hD.sub (ws' := [(h0, .inr (13, zs)), (qf144, .inl (cf144, 2001, .inl f144)), (qf150, .inl (cf150, 60, .inl f150)), (qf151, .inl (cf151, 60, .inl f151)), (qf110, .inl (cf110, 96, .inl f110)), (qf100, .inl (cf100, 48000, .inl f100)), (qf152, .inl (cf152, 60, .inl f152)), (qf102, .inl (cf102, 2048, .inl f102)), (qf104, .inl (cf104, 8, .inl f104)), (qf105, .inl (cf105, 8, .inl f105)), (qf153, .inl (cf153, 60, .inl f153)), (qf154, .inl (cf154, 3600, .inl f154))]) [0, 1, 2, 3, 4, 5, 6, 7, 8, 9, 10, 11] (by decide) rfl
  replace hK := hK.sub (tys' := [(cf144, .int), (cf150, .int), (cf151, .int), (cf110, .int), (cf100, .int), (cf152, .int), (cf102, .int), (cf104, .int), (cf105, .int), (cf153, .int), (cf154, .int)]) [0, 1, 2, 3, 4, 5, 6, 7, 8, 9, 10] rfl
  obtain ⟨n_0, hn_0⟩ : ∃ z : Nat, z = nf := ⟨_, rfl⟩
  obtain ⟨l1_0, el1_0⟩ : ∃ z : Int32, z = a1 := ⟨_, rfl⟩
  obtain ⟨g152_0, eg152_0⟩ : ∃ z : Nat → Int32, z = f152 := ⟨_, rfl⟩
  obtain ⟨g153_0, eg153_0⟩ : ∃ z : Nat → Int32, z = f153 := ⟨_, rfl⟩
  obtain ⟨g154_0, eg154_0⟩ : ∃ z : Nat → Int32, z = f154 := ⟨_, rfl⟩
  obtain ⟨x138_0, ex138_0⟩ : ∃ z : Int32, z = v138 := ⟨_, rfl⟩
  obtain ⟨x139_0, ex139_0⟩ : ∃ z : Int32, z = v139 := ⟨_, rfl⟩
  obtain ⟨x149_0, ex149_0⟩ : ∃ z : Int32, z = v149 := ⟨_, rfl⟩
  replace hsp : lp_vm_thrown_0 nf n_0 a1 v98 v138 v139 v149 f144 f150 f151 f110 f100 f152 f102 f104 f105 f153 f154 nS477 fS477 l1_0 g152_0 g153_0 g154_0 x138_0 x139_0 x149_0 = some (o152, o153, o154, w138, w139, w149) := by rw [hn_0, el1_0, eg152_0, eg153_0, eg154_0, ex138_0, ex139_0, ex149_0]; exact hsp
  replace hl : lv_has ls 9 [(0, .ref h0), (1, .int l1_0)] := by rw [el1_0]; exact hl
  obtain ⟨z0, ez0⟩ : ∃ z : List Value, z = zs := ⟨_, rfl⟩
  have hfh_0_98 : z0[98]? = some (.int v98) := by rw [ez0]; exact hf98
  have hfh_0_100 : z0[100]? = some (.ref qf100) := by rw [ez0]; exact hf100
  have hfh_0_102 : z0[102]? = some (.ref qf102) := by rw [ez0]; exact hf102
  have hfh_0_104 : z0[104]? = some (.ref qf104) := by rw [ez0]; exact hf104
  have hfh_0_105 : z0[105]? = some (.ref qf105) := by rw [ez0]; exact hf105
  have hfh_0_110 : z0[110]? = some (.ref qf110) := by rw [ez0]; exact hf110
  have hfh_0_138 : z0[138]? = some (.int x138_0) := by rw [ez0, ex138_0]; exact hf138
  have hfh_0_139 : z0[139]? = some (.int x139_0) := by rw [ez0, ex139_0]; exact hf139
  have hfh_0_144 : z0[144]? = some (.ref qf144) := by rw [ez0]; exact hf144
  have hfh_0_149 : z0[149]? = some (.int x149_0) := by rw [ez0, ex149_0]; exact hf149
  have hfh_0_150 : z0[150]? = some (.ref qf150) := by rw [ez0]; exact hf150
  have hfh_0_151 : z0[151]? = some (.ref qf151) := by rw [ez0]; exact hf151
  have hfh_0_152 : z0[152]? = some (.ref qf152) := by rw [ez0]; exact hf152
  have hfh_0_153 : z0[153]? = some (.ref qf153) := by rw [ez0]; exact hf153
  have hfh_0_154 : z0[154]? = some (.ref qf154) := by rw [ez0]; exact hf154
  have hlh_0 : z0.length = 155 := by rw [ez0]; exact hlen
  have hrh_0 : ∀ j : Nat, j ≠ 138 → j ≠ 139 → j ≠ 149 → z0[j]? = zs[j]? := by rw [ez0]; exact hrs0
  replace hP : va_P (dC, dI) vwCl [(h0, .inr (13, z0)), (qf144, .inl (cf144, 2001, .inl f144)), (qf150, .inl (cf150, 60, .inl f150)), (qf151, .inl (cf151, 60, .inl f151)), (qf110, .inl (cf110, 96, .inl f110)), (qf100, .inl (cf100, 48000, .inl f100)), (qf152, .inl (cf152, 60, .inl g152_0)), (qf102, .inl (cf102, 2048, .inl f102)), (qf104, .inl (cf104, 8, .inl f104)), (qf105, .inl (cf105, 8, .inl f105)), (qf153, .inl (cf153, 60, .inl g153_0)), (qf154, .inl (cf154, 3600, .inl g154_0))] H := by rw [ez0, eg152_0, eg153_0, eg154_0]; exact hP
  replace hD : va_D A [(h0, .inr (13, z0)), (qf144, .inl (cf144, 2001, .inl f144)), (qf150, .inl (cf150, 60, .inl f150)), (qf151, .inl (cf151, 60, .inl f151)), (qf110, .inl (cf110, 96, .inl f110)), (qf100, .inl (cf100, 48000, .inl f100)), (qf152, .inl (cf152, 60, .inl g152_0)), (qf102, .inl (cf102, 2048, .inl f102)), (qf104, .inl (cf104, 8, .inl f104)), (qf105, .inl (cf105, 8, .inl f105)), (qf153, .inl (cf153, 60, .inl g153_0)), (qf154, .inl (cf154, 3600, .inl g154_0))] := by rw [ez0, eg152_0, eg153_0, eg154_0]; exact hD
  clear hn_0 ez0 el1_0 eg152_0 eg153_0 eg154_0 ex138_0 ex139_0 ex149_0
  try clear hlo
  try clear hH
  revert hsp
  revert hP
  revert hD
  revert hS
  revert hl
  revert hrh_0
  revert hlh_0
  revert hfh_0_154
  revert hfh_0_153
  revert hfh_0_152
  revert hfh_0_151
  revert hfh_0_150
  revert hfh_0_149
  revert hfh_0_144
  revert hfh_0_139
  revert hfh_0_138
  revert hfh_0_110
  revert hfh_0_105
  revert hfh_0_104
  revert hfh_0_102
  revert hfh_0_100
  revert hfh_0_98
  revert x149_0
  revert x139_0
  revert x138_0
  revert g154_0
  revert g153_0
  revert g152_0
  revert l1_0
  revert z0
  revert ls
  revert locs
  revert H
  induction n_0 with
  | zero => intro H locs ls z0 l1_0 g152_0 g153_0 g154_0 x138_0 x139_0 x149_0 hfh_0_98 hfh_0_100 hfh_0_102 hfh_0_104 hfh_0_105 hfh_0_110 hfh_0_138 hfh_0_139 hfh_0_144 hfh_0_149 hfh_0_150 hfh_0_151 hfh_0_152 hfh_0_153 hfh_0_154 hlh_0 hrh_0 hl hS hD hP hsp; unfold lp_vm_thrown_0 at hsp; cases hsp
  | succ n_0 ih_0 =>
    intro H locs ls z0 l1_0 g152_0 g153_0 g154_0 x138_0 x139_0 x149_0 hfh_0_98 hfh_0_100 hfh_0_102 hfh_0_104 hfh_0_105 hfh_0_110 hfh_0_138 hfh_0_139 hfh_0_144 hfh_0_149 hfh_0_150 hfh_0_151 hfh_0_152 hfh_0_153 hfh_0_154 hlh_0 hrh_0 hl hS hD hP hsp
    unfold lp_vm_thrown_0 at hsp
    try dsimp only at hsp
    refine lv_aload_n hx hb dX13_thrown_0 rfl (lv_at hl 0 rfl) ?_
    refine va_get (D := (dC, dI)) (ci := 13) (v := .int x149_0) (C := RX13) (T := TX13) (N := 155) hx hb hts uV_h9_X13 hown hK hP 0 rfl rfl 149 (by decide) (hts (.fieldLink RX13 1058 "ClassMillModel" "depth" "I") mw_h9_370) (fun _ h9 => h9) hfh_0_149 dX13_thrown_1 ?_
    refine lv_if_le (tgt := 228) hx hb dX13_thrown_4 (by decide) (fun c_1 => ?_) (fun c_1 => ?_)
    · rw [if_pos c_1] at hsp
      refine lv_aload_n hx hb dX13_thrown_228 rfl (lv_at hl 0 rfl) ?_
      refine lv_iconst (v := 3) hx hb dX13_thrown_229 (by decide) ?_
      refine va_put (D := (dC, dI)) (ci := 13) (v := .int 3) (ty := .int) (C := RX13) (T := TX13) (N := 155) hx hb hts uV_h9_X13 tyX13 tyX13_ok nmX13 hown hK hP hD hS 0 rfl rfl 138 (by decide) (hts (.fieldLink RX13 858 "ClassMillModel" "state" "I") mw_h9_364) (fun _ h9 => h9) rfl (by decide +kernel) rfl rfl (by rw [hlh_0]; decide) dX13_thrown_230 ?_
      clear hP hD hS
      intro H locs hP hD hS
      obtain ⟨fs_2, efs_2⟩ : ∃ zf : List Value, zf = z0.set 138 (.int 3) := ⟨_, rfl⟩
      rw [← efs_2] at hP hD
      have hlfs_2 : fs_2.length = 155 := by rw [efs_2, List.length_set]; exact hlh_0
      have hfs_2_98 : fs_2[98]? = some (.int v98) := by rw [efs_2, List.getElem?_set_ne (by decide)]; exact hfh_0_98
      have hfs_2_100 : fs_2[100]? = some (.ref qf100) := by rw [efs_2, List.getElem?_set_ne (by decide)]; exact hfh_0_100
      have hfs_2_102 : fs_2[102]? = some (.ref qf102) := by rw [efs_2, List.getElem?_set_ne (by decide)]; exact hfh_0_102
      have hfs_2_104 : fs_2[104]? = some (.ref qf104) := by rw [efs_2, List.getElem?_set_ne (by decide)]; exact hfh_0_104
      have hfs_2_105 : fs_2[105]? = some (.ref qf105) := by rw [efs_2, List.getElem?_set_ne (by decide)]; exact hfh_0_105
      have hfs_2_110 : fs_2[110]? = some (.ref qf110) := by rw [efs_2, List.getElem?_set_ne (by decide)]; exact hfh_0_110
      have hfs_2_139 : fs_2[139]? = some (.int x139_0) := by rw [efs_2, List.getElem?_set_ne (by decide)]; exact hfh_0_139
      have hfs_2_144 : fs_2[144]? = some (.ref qf144) := by rw [efs_2, List.getElem?_set_ne (by decide)]; exact hfh_0_144
      have hfs_2_149 : fs_2[149]? = some (.int x149_0) := by rw [efs_2, List.getElem?_set_ne (by decide)]; exact hfh_0_149
      have hfs_2_150 : fs_2[150]? = some (.ref qf150) := by rw [efs_2, List.getElem?_set_ne (by decide)]; exact hfh_0_150
      have hfs_2_151 : fs_2[151]? = some (.ref qf151) := by rw [efs_2, List.getElem?_set_ne (by decide)]; exact hfh_0_151
      have hfs_2_152 : fs_2[152]? = some (.ref qf152) := by rw [efs_2, List.getElem?_set_ne (by decide)]; exact hfh_0_152
      have hfs_2_153 : fs_2[153]? = some (.ref qf153) := by rw [efs_2, List.getElem?_set_ne (by decide)]; exact hfh_0_153
      have hfs_2_154 : fs_2[154]? = some (.ref qf154) := by rw [efs_2, List.getElem?_set_ne (by decide)]; exact hfh_0_154
      have hfs_2_138 : fs_2[138]? = some (.int 3) := by rw [efs_2, List.getElem?_set_self (by rw [hlh_0]; decide)]
      replace hP : va_P (dC, dI) vwCl [(h0, .inr (13, fs_2)), (qf144, .inl (cf144, 2001, .inl f144)), (qf150, .inl (cf150, 60, .inl f150)), (qf151, .inl (cf151, 60, .inl f151)), (qf110, .inl (cf110, 96, .inl f110)), (qf100, .inl (cf100, 48000, .inl f100)), (qf152, .inl (cf152, 60, .inl g152_0)), (qf102, .inl (cf102, 2048, .inl f102)), (qf104, .inl (cf104, 8, .inl f104)), (qf105, .inl (cf105, 8, .inl f105)), (qf153, .inl (cf153, 60, .inl g153_0)), (qf154, .inl (cf154, 3600, .inl g154_0))] H := hP
      replace hD : va_D A [(h0, .inr (13, fs_2)), (qf144, .inl (cf144, 2001, .inl f144)), (qf150, .inl (cf150, 60, .inl f150)), (qf151, .inl (cf151, 60, .inl f151)), (qf110, .inl (cf110, 96, .inl f110)), (qf100, .inl (cf100, 48000, .inl f100)), (qf152, .inl (cf152, 60, .inl g152_0)), (qf102, .inl (cf102, 2048, .inl f102)), (qf104, .inl (cf104, 8, .inl f104)), (qf105, .inl (cf105, 8, .inl f105)), (qf153, .inl (cf153, 60, .inl g153_0)), (qf154, .inl (cf154, 3600, .inl g154_0))] := hD
      have hrs_3 : ∀ j : Nat, j ≠ 138 → j ≠ 139 → j ≠ 149 → fs_2[j]? = zs[j]? := fun j g138 g139 g149 => ((congrArg (fun z : List Value => z[j]?) efs_2).trans (List.getElem?_set_ne (Ne.symm g138))).trans (hrh_0 j g138 g139 g149)
      refine lv_aload_n hx hb dX13_thrown_233 rfl (lv_at hl 0 rfl) ?_
      refine lv_aload_n hx hb dX13_thrown_234 rfl (lv_at hl 0 rfl) ?_
      refine va_get (D := (dC, dI)) (ci := 13) (v := .ref qf144) (C := RX13) (T := TX13) (N := 155) hx hb hts uV_h9_X13 hown hK hP 0 rfl rfl 144 (by decide) (hts (.fieldLink RX13 279 "ClassMillModel" "sort" "[I") mw_h9_371) (fun _ h9 => h9) hfs_2_144 dX13_thrown_235 ?_
      refine lv_iload_n hx hb dX13_thrown_238 rfl (lv_at hl 1 rfl) ?_
      obtain ⟨hi_4, hsp⟩ := ox_in hsp
      refine va_iald hx hb hK hP 1 0 rfl rfl (i := l1_0) hi_4 dX13_thrown_239 ?_
      refine va_put (D := (dC, dI)) (ci := 13) (v := .int (f144 (l1_0 : Int32).toNatClampNeg)) (ty := .int) (C := RX13) (T := TX13) (N := 155) hx hb hts uV_h9_X13 tyX13 tyX13_ok nmX13 hown hK hP hD hS 0 rfl rfl 139 (by decide) (hts (.fieldLink RX13 1043 "ClassMillModel" "gave" "I") mw_h9_365) (fun _ h9 => h9) rfl (by decide +kernel) rfl rfl (by rw [hlfs_2]; decide) dX13_thrown_240 ?_
      clear hP hD hS
      intro H locs hP hD hS
      obtain ⟨fs_5, efs_5⟩ : ∃ zf : List Value, zf = fs_2.set 139 (.int (f144 (l1_0 : Int32).toNatClampNeg)) := ⟨_, rfl⟩
      rw [← efs_5] at hP hD
      have hlfs_5 : fs_5.length = 155 := by rw [efs_5, List.length_set]; exact hlfs_2
      have hfs_5_98 : fs_5[98]? = some (.int v98) := by rw [efs_5, List.getElem?_set_ne (by decide)]; exact hfs_2_98
      have hfs_5_100 : fs_5[100]? = some (.ref qf100) := by rw [efs_5, List.getElem?_set_ne (by decide)]; exact hfs_2_100
      have hfs_5_102 : fs_5[102]? = some (.ref qf102) := by rw [efs_5, List.getElem?_set_ne (by decide)]; exact hfs_2_102
      have hfs_5_104 : fs_5[104]? = some (.ref qf104) := by rw [efs_5, List.getElem?_set_ne (by decide)]; exact hfs_2_104
      have hfs_5_105 : fs_5[105]? = some (.ref qf105) := by rw [efs_5, List.getElem?_set_ne (by decide)]; exact hfs_2_105
      have hfs_5_110 : fs_5[110]? = some (.ref qf110) := by rw [efs_5, List.getElem?_set_ne (by decide)]; exact hfs_2_110
      have hfs_5_144 : fs_5[144]? = some (.ref qf144) := by rw [efs_5, List.getElem?_set_ne (by decide)]; exact hfs_2_144
      have hfs_5_149 : fs_5[149]? = some (.int x149_0) := by rw [efs_5, List.getElem?_set_ne (by decide)]; exact hfs_2_149
      have hfs_5_150 : fs_5[150]? = some (.ref qf150) := by rw [efs_5, List.getElem?_set_ne (by decide)]; exact hfs_2_150
      have hfs_5_151 : fs_5[151]? = some (.ref qf151) := by rw [efs_5, List.getElem?_set_ne (by decide)]; exact hfs_2_151
      have hfs_5_152 : fs_5[152]? = some (.ref qf152) := by rw [efs_5, List.getElem?_set_ne (by decide)]; exact hfs_2_152
      have hfs_5_153 : fs_5[153]? = some (.ref qf153) := by rw [efs_5, List.getElem?_set_ne (by decide)]; exact hfs_2_153
      have hfs_5_154 : fs_5[154]? = some (.ref qf154) := by rw [efs_5, List.getElem?_set_ne (by decide)]; exact hfs_2_154
      have hfs_5_138 : fs_5[138]? = some (.int 3) := by rw [efs_5, List.getElem?_set_ne (by decide)]; exact hfs_2_138
      have hfs_5_139 : fs_5[139]? = some (.int (f144 (l1_0 : Int32).toNatClampNeg)) := by rw [efs_5, List.getElem?_set_self (by rw [hlfs_2]; decide)]
      replace hP : va_P (dC, dI) vwCl [(h0, .inr (13, fs_5)), (qf144, .inl (cf144, 2001, .inl f144)), (qf150, .inl (cf150, 60, .inl f150)), (qf151, .inl (cf151, 60, .inl f151)), (qf110, .inl (cf110, 96, .inl f110)), (qf100, .inl (cf100, 48000, .inl f100)), (qf152, .inl (cf152, 60, .inl g152_0)), (qf102, .inl (cf102, 2048, .inl f102)), (qf104, .inl (cf104, 8, .inl f104)), (qf105, .inl (cf105, 8, .inl f105)), (qf153, .inl (cf153, 60, .inl g153_0)), (qf154, .inl (cf154, 3600, .inl g154_0))] H := hP
      replace hD : va_D A [(h0, .inr (13, fs_5)), (qf144, .inl (cf144, 2001, .inl f144)), (qf150, .inl (cf150, 60, .inl f150)), (qf151, .inl (cf151, 60, .inl f151)), (qf110, .inl (cf110, 96, .inl f110)), (qf100, .inl (cf100, 48000, .inl f100)), (qf152, .inl (cf152, 60, .inl g152_0)), (qf102, .inl (cf102, 2048, .inl f102)), (qf104, .inl (cf104, 8, .inl f104)), (qf105, .inl (cf105, 8, .inl f105)), (qf153, .inl (cf153, 60, .inl g153_0)), (qf154, .inl (cf154, 3600, .inl g154_0))] := hD
      have hrs_6 : ∀ j : Nat, j ≠ 138 → j ≠ 139 → j ≠ 149 → fs_5[j]? = zs[j]? := fun j g138 g139 g149 => ((congrArg (fun z : List Value => z[j]?) efs_5).trans (List.getElem?_set_ne (Ne.symm g139))).trans (hrs_3 j g138 g139 g149)
      have hr0 := Option.some.inj hsp
      clear hsp
      obtain ⟨hq0, hr1⟩ := Prod.mk.inj hr0
      clear hr0
      obtain ⟨hq1, hr2⟩ := Prod.mk.inj hr1
      clear hr1
      obtain ⟨hq2, hr3⟩ := Prod.mk.inj hr2
      clear hr2
      obtain ⟨hq3, hr4⟩ := Prod.mk.inj hr3
      clear hr3
      obtain ⟨hq4, hr5⟩ := Prod.mk.inj hr4
      clear hr4
      subst hq0
      subst hq1
      subst hq2
      subst hq3
      subst hq4
      subst hr5
      have hP9 := hP.sub (ws' := [(h0, .inr (13, fs_5)), (qf144, .inl (cf144, 2001, .inl f144)), (qf150, .inl (cf150, 60, .inl f150)), (qf151, .inl (cf151, 60, .inl f151)), (qf110, .inl (cf110, 96, .inl f110)), (qf100, .inl (cf100, 48000, .inl f100)), (qf152, .inl (cf152, 60, .inl g152_0)), (qf102, .inl (cf102, 2048, .inl f102)), (qf104, .inl (cf104, 8, .inl f104)), (qf105, .inl (cf105, 8, .inl f105)), (qf153, .inl (cf153, 60, .inl g153_0)), (qf154, .inl (cf154, 3600, .inl g154_0))]) [0, 1, 2, 3, 4, 5, 6, 7, 8, 9, 10, 11] rfl
      have hD9 := hD.sub (ws' := [(h0, .inr (13, fs_5)), (qf144, .inl (cf144, 2001, .inl f144)), (qf150, .inl (cf150, 60, .inl f150)), (qf151, .inl (cf151, 60, .inl f151)), (qf110, .inl (cf110, 96, .inl f110)), (qf100, .inl (cf100, 48000, .inl f100)), (qf152, .inl (cf152, 60, .inl g152_0)), (qf102, .inl (cf102, 2048, .inl f102)), (qf104, .inl (cf104, 8, .inl f104)), (qf105, .inl (cf105, 8, .inl f105)), (qf153, .inl (cf153, 60, .inl g153_0)), (qf154, .inl (cf154, 3600, .inl g154_0))]) [0, 1, 2, 3, 4, 5, 6, 7, 8, 9, 10, 11] (by decide) rfl
      have hK9 := hK.sub (tys' := [(cf144, .int), (cf150, .int), (cf151, .int), (cf110, .int), (cf100, .int), (cf152, .int), (cf102, .int), (cf104, .int), (cf105, .int), (cf153, .int), (cf154, .int)]) [0, 1, 2, 3, 4, 5, 6, 7, 8, 9, 10] rfl
      exact W.vret hx hb hr (fun t ht hW => ⟨⟨(fs_5), rfl, ⟨trivial, hlfs_5, hrs_6, hfs_5_138, hfs_5_139, hfs_5_149⟩, by rw [ht]; exact hP9, va_K.moved hW.alike hK9, hD9⟩, hS.F ht⟩) hS.2.2 dX13_thrown_243
    · rw [if_neg c_1] at hsp
      refine lv_aload_n hx hb dX13_thrown_7 rfl (lv_at hl 0 rfl) ?_
      refine va_get (D := (dC, dI)) (ci := 13) (v := .int x149_0) (C := RX13) (T := TX13) (N := 155) hx hb hts uV_h9_X13 hown hK hP 0 rfl rfl 149 (by decide) (hts (.fieldLink RX13 1058 "ClassMillModel" "depth" "I") mw_h9_370) (fun _ h9 => h9) hfh_0_149 dX13_thrown_8 ?_
      refine lv_iconst (v := 1) hx hb dX13_thrown_11 (by decide) ?_
      refine lv_isub hx hb dX13_thrown_12 ?_
      refine lv_istore_n (lv' := [(2, .int (x149_0 - 1)), (0, .ref h0), (1, .int l1_0)]) hx hb dX13_thrown_13 rfl hl (by decide) rfl (fun ls hl => ?_)
      refine lv_aload_n hx hb dX13_thrown_14 rfl (lv_at hl 1 rfl) ?_
      refine va_get (D := (dC, dI)) (ci := 13) (v := .ref qf150) (C := RX13) (T := TX13) (N := 155) hx hb hts uV_h9_X13 hown hK hP 0 rfl rfl 150 (by decide) (hts (.fieldLink RX13 294 "ClassMillModel" "runClass" "[I") mw_h9_387) (fun _ h9 => h9) hfh_0_150 dX13_thrown_15 ?_
      refine lv_iload_n hx hb dX13_thrown_18 rfl (lv_at hl 0 rfl) ?_
      obtain ⟨hi_7, hsp⟩ := ox_in hsp
      refine va_iald hx hb hK hP 2 1 rfl rfl (i := (x149_0 - 1)) hi_7 dX13_thrown_19 ?_
      refine lv_bipush (v := 8) hx hb dX13_thrown_20 (by decide) ?_
      refine lv_isub hx hb dX13_thrown_22 ?_
      refine lv_istore_n (lv' := [(3, .int ((f150 ((x149_0 - 1) : Int32).toNatClampNeg) - 8)), (2, .int (x149_0 - 1)), (0, .ref h0), (1, .int l1_0)]) hx hb dX13_thrown_23 rfl hl (by decide) rfl (fun ls hl => ?_)
      refine lv_aload_n hx hb dX13_thrown_24 rfl (lv_at hl 2 rfl) ?_
      refine va_get (D := (dC, dI)) (ci := 13) (v := .ref qf110) (C := RX13) (T := TX13) (N := 155) hx hb hts uV_h9_X13 hown hK hP 0 rfl rfl 110 (by decide) (hts (.fieldLink RX13 239 "ClassMillModel" "handlersAt" "[I") mw_h9_283) (fun _ h9 => h9) hfh_0_110 dX13_thrown_25 ?_
      refine lv_bipush (v := 12) hx hb dX13_thrown_28 (by decide) ?_
      refine lv_iload_n hx hb dX13_thrown_30 rfl (lv_at hl 0 rfl) ?_
      refine lv_imul hx hb dX13_thrown_31 ?_
      refine lv_aload_n hx hb dX13_thrown_32 rfl (lv_at hl 2 rfl) ?_
      refine va_get (D := (dC, dI)) (ci := 13) (v := .ref qf151) (C := RX13) (T := TX13) (N := 155) hx hb hts uV_h9_X13 hown hK hP 0 rfl rfl 151 (by decide) (hts (.fieldLink RX13 297 "ClassMillModel" "runMethod" "[I") mw_h9_388) (fun _ h9 => h9) hfh_0_151 dX13_thrown_33 ?_
      refine lv_iload_n hx hb dX13_thrown_36 rfl (lv_at hl 1 rfl) ?_
      obtain ⟨hi_8, hsp⟩ := ox_in hsp
      refine va_iald hx hb hK hP 3 2 rfl rfl (i := (x149_0 - 1)) hi_8 dX13_thrown_37 ?_
      refine lv_iadd hx hb dX13_thrown_38 ?_
      obtain ⟨hi_9, hsp⟩ := ox_in hsp
      refine va_iald hx hb hK hP 4 3 rfl rfl (i := ((12 * ((f150 ((x149_0 - 1) : Int32).toNatClampNeg) - 8)) + (f151 ((x149_0 - 1) : Int32).toNatClampNeg))) hi_9 dX13_thrown_39 ?_
      refine lv_istore (lv' := [(4, .int (f110 (((12 * ((f150 ((x149_0 - 1) : Int32).toNatClampNeg) - 8)) + (f151 ((x149_0 - 1) : Int32).toNatClampNeg)) : Int32).toNatClampNeg)), (3, .int ((f150 ((x149_0 - 1) : Int32).toNatClampNeg) - 8)), (2, .int (x149_0 - 1)), (0, .ref h0), (1, .int l1_0)]) hx hb dX13_thrown_40 hl (by decide) rfl (fun ls hl => ?_)
      refine lv_iconst (v := 0) hx hb dX13_thrown_42 (by decide) ?_
      refine lv_istore (lv' := [(5, .int 0), (4, .int (f110 (((12 * ((f150 ((x149_0 - 1) : Int32).toNatClampNeg) - 8)) + (f151 ((x149_0 - 1) : Int32).toNatClampNeg)) : Int32).toNatClampNeg)), (3, .int ((f150 ((x149_0 - 1) : Int32).toNatClampNeg) - 8)), (2, .int (x149_0 - 1)), (0, .ref h0), (1, .int l1_0)]) hx hb dX13_thrown_43 hl (by decide) rfl (fun ls hl => ?_)
      replace hl : lv_has ls 9 [(5, .int 0), (4, .int (f110 (((12 * ((f150 ((x149_0 - 1) : Int32).toNatClampNeg) - 8)) + (f151 ((x149_0 - 1) : Int32).toNatClampNeg)) : Int32).toNatClampNeg)), (3, .int ((f150 ((x149_0 - 1) : Int32).toNatClampNeg) - 8)), (2, .int (x149_0 - 1)), (0, .ref h0), (1, .int l1_0)] := lv_sub hl [0, 1, 2, 3, 4, 5] rfl
      replace hP := hP.sub (ws' := [(h0, .inr (13, z0)), (qf144, .inl (cf144, 2001, .inl f144)), (qf150, .inl (cf150, 60, .inl f150)), (qf151, .inl (cf151, 60, .inl f151)), (qf110, .inl (cf110, 96, .inl f110)), (qf100, .inl (cf100, 48000, .inl f100)), (qf152, .inl (cf152, 60, .inl g152_0)), (qf102, .inl (cf102, 2048, .inl f102)), (qf104, .inl (cf104, 8, .inl f104)), (qf105, .inl (cf105, 8, .inl f105)), (qf153, .inl (cf153, 60, .inl g153_0)), (qf154, .inl (cf154, 3600, .inl g154_0))]) [0, 1, 2, 3, 4, 5, 6, 7, 8, 9, 10, 11] rfl
      replace hD := hD.sub (ws' := [(h0, .inr (13, z0)), (qf144, .inl (cf144, 2001, .inl f144)), (qf150, .inl (cf150, 60, .inl f150)), (qf151, .inl (cf151, 60, .inl f151)), (qf110, .inl (cf110, 96, .inl f110)), (qf100, .inl (cf100, 48000, .inl f100)), (qf152, .inl (cf152, 60, .inl g152_0)), (qf102, .inl (cf102, 2048, .inl f102)), (qf104, .inl (cf104, 8, .inl f104)), (qf105, .inl (cf105, 8, .inl f105)), (qf153, .inl (cf153, 60, .inl g153_0)), (qf154, .inl (cf154, 3600, .inl g154_0))]) [0, 1, 2, 3, 4, 5, 6, 7, 8, 9, 10, 11] (by decide) rfl
      replace hK := hK.sub (tys' := [(cf144, .int), (cf150, .int), (cf151, .int), (cf110, .int), (cf100, .int), (cf152, .int), (cf102, .int), (cf104, .int), (cf105, .int), (cf153, .int), (cf154, .int)]) [0, 1, 2, 3, 4, 5, 6, 7, 8, 9, 10] rfl
      obtain ⟨n_45, hn_45⟩ : ∃ z : Nat, z = nf := ⟨_, rfl⟩
      obtain ⟨l1_45, el1_45⟩ : ∃ z : Int32, z = l1_0 := ⟨_, rfl⟩
      obtain ⟨l2_45, el2_45⟩ : ∃ z : Int32, z = (x149_0 - 1) := ⟨_, rfl⟩
      obtain ⟨l3_45, el3_45⟩ : ∃ z : Int32, z = ((f150 ((x149_0 - 1) : Int32).toNatClampNeg) - 8) := ⟨_, rfl⟩
      obtain ⟨l4_45, el4_45⟩ : ∃ z : Int32, z = (f110 (((12 * ((f150 ((x149_0 - 1) : Int32).toNatClampNeg) - 8)) + (f151 ((x149_0 - 1) : Int32).toNatClampNeg)) : Int32).toNatClampNeg) := ⟨_, rfl⟩
      obtain ⟨l5_45, el5_45⟩ : ∃ z : Int32, z = 0 := ⟨_, rfl⟩
      obtain ⟨g152_45, eg152_45⟩ : ∃ z : Nat → Int32, z = g152_0 := ⟨_, rfl⟩
      obtain ⟨g153_45, eg153_45⟩ : ∃ z : Nat → Int32, z = g153_0 := ⟨_, rfl⟩
      obtain ⟨g154_45, eg154_45⟩ : ∃ z : Nat → Int32, z = g154_0 := ⟨_, rfl⟩
      obtain ⟨x138_45, ex138_45⟩ : ∃ z : Int32, z = x138_0 := ⟨_, rfl⟩
      obtain ⟨x139_45, ex139_45⟩ : ∃ z : Int32, z = x139_0 := ⟨_, rfl⟩
      obtain ⟨x149_45, ex149_45⟩ : ∃ z : Int32, z = x149_0 := ⟨_, rfl⟩
      replace hsp : lp_vm_thrown_45 nf n_45 a1 v98 v138 v139 v149 f144 f150 f151 f110 f100 f152 f102 f104 f105 f153 f154 nS477 fS477 (lp_vm_thrown_0 nf n_0 a1 v98 v138 v139 v149 f144 f150 f151 f110 f100 f152 f102 f104 f105 f153 f154 nS477 fS477) l1_45 l2_45 l3_45 l4_45 l5_45 g152_45 g153_45 g154_45 x138_45 x139_45 x149_45 = some (o152, o153, o154, w138, w139, w149) := by rw [hn_45, el1_45, el2_45, el3_45, el4_45, el5_45, eg152_45, eg153_45, eg154_45, ex138_45, ex139_45, ex149_45]; exact hsp
      replace hl : lv_has ls 9 [(5, .int l5_45), (4, .int l4_45), (3, .int l3_45), (2, .int l2_45), (0, .ref h0), (1, .int l1_45)] := by rw [el1_45, el2_45, el3_45, el4_45, el5_45]; exact hl
      obtain ⟨z45, ez45⟩ : ∃ z : List Value, z = z0 := ⟨_, rfl⟩
      have hfh_45_98 : z45[98]? = some (.int v98) := by rw [ez45]; exact hfh_0_98
      have hfh_45_100 : z45[100]? = some (.ref qf100) := by rw [ez45]; exact hfh_0_100
      have hfh_45_102 : z45[102]? = some (.ref qf102) := by rw [ez45]; exact hfh_0_102
      have hfh_45_104 : z45[104]? = some (.ref qf104) := by rw [ez45]; exact hfh_0_104
      have hfh_45_105 : z45[105]? = some (.ref qf105) := by rw [ez45]; exact hfh_0_105
      have hfh_45_110 : z45[110]? = some (.ref qf110) := by rw [ez45]; exact hfh_0_110
      have hfh_45_138 : z45[138]? = some (.int x138_45) := by rw [ez45, ex138_45]; exact hfh_0_138
      have hfh_45_139 : z45[139]? = some (.int x139_45) := by rw [ez45, ex139_45]; exact hfh_0_139
      have hfh_45_144 : z45[144]? = some (.ref qf144) := by rw [ez45]; exact hfh_0_144
      have hfh_45_149 : z45[149]? = some (.int x149_45) := by rw [ez45, ex149_45]; exact hfh_0_149
      have hfh_45_150 : z45[150]? = some (.ref qf150) := by rw [ez45]; exact hfh_0_150
      have hfh_45_151 : z45[151]? = some (.ref qf151) := by rw [ez45]; exact hfh_0_151
      have hfh_45_152 : z45[152]? = some (.ref qf152) := by rw [ez45]; exact hfh_0_152
      have hfh_45_153 : z45[153]? = some (.ref qf153) := by rw [ez45]; exact hfh_0_153
      have hfh_45_154 : z45[154]? = some (.ref qf154) := by rw [ez45]; exact hfh_0_154
      have hlh_45 : z45.length = 155 := by rw [ez45]; exact hlh_0
      have hrh_45 : ∀ j : Nat, j ≠ 138 → j ≠ 139 → j ≠ 149 → z45[j]? = zs[j]? := by rw [ez45]; exact hrh_0
      replace hP : va_P (dC, dI) vwCl [(h0, .inr (13, z45)), (qf144, .inl (cf144, 2001, .inl f144)), (qf150, .inl (cf150, 60, .inl f150)), (qf151, .inl (cf151, 60, .inl f151)), (qf110, .inl (cf110, 96, .inl f110)), (qf100, .inl (cf100, 48000, .inl f100)), (qf152, .inl (cf152, 60, .inl g152_45)), (qf102, .inl (cf102, 2048, .inl f102)), (qf104, .inl (cf104, 8, .inl f104)), (qf105, .inl (cf105, 8, .inl f105)), (qf153, .inl (cf153, 60, .inl g153_45)), (qf154, .inl (cf154, 3600, .inl g154_45))] H := by rw [ez45, eg152_45, eg153_45, eg154_45]; exact hP
      replace hD : va_D A [(h0, .inr (13, z45)), (qf144, .inl (cf144, 2001, .inl f144)), (qf150, .inl (cf150, 60, .inl f150)), (qf151, .inl (cf151, 60, .inl f151)), (qf110, .inl (cf110, 96, .inl f110)), (qf100, .inl (cf100, 48000, .inl f100)), (qf152, .inl (cf152, 60, .inl g152_45)), (qf102, .inl (cf102, 2048, .inl f102)), (qf104, .inl (cf104, 8, .inl f104)), (qf105, .inl (cf105, 8, .inl f105)), (qf153, .inl (cf153, 60, .inl g153_45)), (qf154, .inl (cf154, 3600, .inl g154_45))] := by rw [ez45, eg152_45, eg153_45, eg154_45]; exact hD
      clear hn_45 ez45 el1_45 el2_45 el3_45 el4_45 el5_45 eg152_45 eg153_45 eg154_45 ex138_45 ex139_45 ex149_45
      try clear hlo
      try clear hH
      revert hsp
      revert hP
      revert hD
      revert hS
      revert hl
      revert hrh_45
      revert hlh_45
      revert hfh_45_154
      revert hfh_45_153
      revert hfh_45_152
      revert hfh_45_151
      revert hfh_45_150
      revert hfh_45_149
      revert hfh_45_144
      revert hfh_45_139
      revert hfh_45_138
      revert hfh_45_110
      revert hfh_45_105
      revert hfh_45_104
      revert hfh_45_102
      revert hfh_45_100
      revert hfh_45_98
      revert x149_45
      revert x139_45
      revert x138_45
      revert g154_45
      revert g153_45
      revert g152_45
      revert l5_45
      revert l4_45
      revert l3_45
      revert l2_45
      revert l1_45
      revert z45
      revert ls
      revert locs
      revert H
      induction n_45 with
      | zero => intro H locs ls z45 l1_45 l2_45 l3_45 l4_45 l5_45 g152_45 g153_45 g154_45 x138_45 x139_45 x149_45 hfh_45_98 hfh_45_100 hfh_45_102 hfh_45_104 hfh_45_105 hfh_45_110 hfh_45_138 hfh_45_139 hfh_45_144 hfh_45_149 hfh_45_150 hfh_45_151 hfh_45_152 hfh_45_153 hfh_45_154 hlh_45 hrh_45 hl hS hD hP hsp; unfold lp_vm_thrown_45 at hsp; cases hsp
      | succ n_45 ih_45 =>
        intro H locs ls z45 l1_45 l2_45 l3_45 l4_45 l5_45 g152_45 g153_45 g154_45 x138_45 x139_45 x149_45 hfh_45_98 hfh_45_100 hfh_45_102 hfh_45_104 hfh_45_105 hfh_45_110 hfh_45_138 hfh_45_139 hfh_45_144 hfh_45_149 hfh_45_150 hfh_45_151 hfh_45_152 hfh_45_153 hfh_45_154 hlh_45 hrh_45 hl hS hD hP hsp
        unfold lp_vm_thrown_45 at hsp
        try dsimp only at hsp
        refine lv_iload hx hb dX13_thrown_45 (lv_at hl 0 rfl) ?_
        refine lv_aload_n hx hb dX13_thrown_47 rfl (lv_at hl 4 rfl) ?_
        refine lv_iload_n hx hb dX13_thrown_48 rfl (lv_at hl 2 rfl) ?_
        refine lv_iload hx hb dX13_thrown_49 (lv_at hl 1 rfl) ?_
        obtain ⟨u1_0, hu_1, hsp⟩ := ox_bind hsp
        try dsimp only at hsp
        have hPc := hP.sub (ws' := [(h0, .inr (13, z45)), (qf100, .inl (cf100, 48000, .inl f100))]) [0, 5] rfl
        have hDc := hD.sub (ws' := [(h0, .inr (13, z45)), (qf100, .inl (cf100, 48000, .inl f100))]) [0, 5] (by decide) rfl
        have hKc := hK.sub (tys' := [(cf100, .int)]) [4] rfl
        have hFc := va_free (wc := [(h0, .inr (13, z45)), (qf100, .inl (cf100, 48000, .inl f100))]) hD hS hA [0, 5] rfl
        refine va_calli (va_runV (As := [.int l3_45, .int l4_45]) (rest := [.int l5_45]) ⟨hx, hb, hml, hown, hts⟩ (tm_byteAt l dC dI H.size h0 z45 l3_45 l4_45 qf100 cf100 f100 nf u1_0 hlh_45 hfh_45_100 hu_1) (cwV 2 hts gv_h9_58 rfl rfl rfl (by decide +kernel) ⟨Nat.le_of_ble_eq_true rfl, Nat.le_of_ble_eq_true rfl⟩) ⟨fun a U g mk q => by obtain ⟨q0, q1, qP, qK, qD⟩ := q; exact ⟨q0, q1, qP, va_K.moved (u := U) (U := U.calling g mk a) (Vm.Alike.refl U.vm) qK, qD⟩, va_recv hKc hPc (ci := 13) (q0 := 0) rfl rfl, fun U hU hW => ⟨rfl, by rw [hU], by rw [hU]; exact hPc, va_K.moved hW.alike hKc, hDc.weaken (fun _ _ _ _ => trivial)⟩⟩ rfl rfl hl.1 rfl (lv_room (Nat.le_of_ble_eq_true rfl)) dX13_thrown_51 ⟨Nat.le_of_ble_eq_true rfl, Nat.le_of_ble_eq_true rfl⟩) hS (fun q _ h => hFc q h) hFc ?_
        clear hS
        intro r_10 u t H1 locs ht hvm hw hB hz1 hk1 hS
        obtain ⟨z_1, rfl⟩ : ∃ z, z = u := ⟨_, rfl⟩
        obtain ⟨hP1, hK1, hD1⟩ := hB
        rw [ht] at hP1
        have hK1 := va_K.moved hvm.symm hK1
        try dsimp only at hw
        have hPD := va_join (wr := [(qf144, .inl (cf144, 2001, .inl f144)), (qf150, .inl (cf150, 60, .inl f150)), (qf151, .inl (cf151, 60, .inl f151)), (qf110, .inl (cf110, 96, .inl f110)), (qf152, .inl (cf152, 60, .inl g152_45)), (qf102, .inl (cf102, 2048, .inl f102)), (qf104, .inl (cf104, 8, .inl f104)), (qf105, .inl (cf105, 8, .inl f105)), (qf153, .inl (cf153, 60, .inl g153_45)), (qf154, .inl (cf154, 3600, .inl g154_45))]) (w1 := [(h0, .inr (13, z_1)), (qf100, .inl (cf100, 48000, .inl f100))]) hP hD [0, 5] [1, 2, 3, 4, 6, 7, 8, 9, 10, 11] rfl rfl (by decide) (by decide) hk1 hFc hP1 hD1
        clear hP hD
        obtain ⟨hP, hD⟩ := hPD
        replace hK := (hK.sub (tys' := [(cf144, .int), (cf150, .int), (cf151, .int), (cf110, .int), (cf152, .int), (cf102, .int), (cf104, .int), (cf105, .int), (cf153, .int), (cf154, .int)]) [0, 1, 2, 3, 5, 6, 7, 8, 9, 10] rfl).app hK1
        clear hPc hDc hKc hFc hP1 hK1 hD1 hz1 hk1 ht hvm
        generalize H1 = H at hP hS ⊢
        replace hP : va_P (dC, dI) vwCl [(qf144, .inl (cf144, 2001, .inl f144)), (qf150, .inl (cf150, 60, .inl f150)), (qf151, .inl (cf151, 60, .inl f151)), (qf110, .inl (cf110, 96, .inl f110)), (qf152, .inl (cf152, 60, .inl g152_45)), (qf102, .inl (cf102, 2048, .inl f102)), (qf104, .inl (cf104, 8, .inl f104)), (qf105, .inl (cf105, 8, .inl f105)), (qf153, .inl (cf153, 60, .inl g153_45)), (qf154, .inl (cf154, 3600, .inl g154_45)), (h0, .inr (13, z_1)), (qf100, .inl (cf100, 48000, .inl f100))] H := hP
        replace hD : va_D A [(qf144, .inl (cf144, 2001, .inl f144)), (qf150, .inl (cf150, 60, .inl f150)), (qf151, .inl (cf151, 60, .inl f151)), (qf110, .inl (cf110, 96, .inl f110)), (qf152, .inl (cf152, 60, .inl g152_45)), (qf102, .inl (cf102, 2048, .inl f102)), (qf104, .inl (cf104, 8, .inl f104)), (qf105, .inl (cf105, 8, .inl f105)), (qf153, .inl (cf153, 60, .inl g153_45)), (qf154, .inl (cf154, 3600, .inl g154_45)), (h0, .inr (13, z_1)), (qf100, .inl (cf100, 48000, .inl f100))] := hD
        replace hK : va_K (dC, dI) vwCl [(cf144, .int), (cf150, .int), (cf151, .int), (cf110, .int), (cf152, .int), (cf102, .int), (cf104, .int), (cf105, .int), (cf153, .int), (cf154, .int), (cf100, .int)] s := hK
        obtain ⟨hwa_1, hln_1, hre_1⟩ := hw
        have hfk_1_98 : z_1[98]? = some (.int v98) := (hre_1 98 ).trans (hfh_45_98)
        have hfk_1_100 : z_1[100]? = some (.ref qf100) := (hre_1 100 ).trans (hfh_45_100)
        have hfk_1_102 : z_1[102]? = some (.ref qf102) := (hre_1 102 ).trans (hfh_45_102)
        have hfk_1_104 : z_1[104]? = some (.ref qf104) := (hre_1 104 ).trans (hfh_45_104)
        have hfk_1_105 : z_1[105]? = some (.ref qf105) := (hre_1 105 ).trans (hfh_45_105)
        have hfk_1_110 : z_1[110]? = some (.ref qf110) := (hre_1 110 ).trans (hfh_45_110)
        have hfk_1_138 : z_1[138]? = some (.int x138_45) := (hre_1 138 ).trans (hfh_45_138)
        have hfk_1_139 : z_1[139]? = some (.int x139_45) := (hre_1 139 ).trans (hfh_45_139)
        have hfk_1_144 : z_1[144]? = some (.ref qf144) := (hre_1 144 ).trans (hfh_45_144)
        have hfk_1_149 : z_1[149]? = some (.int x149_45) := (hre_1 149 ).trans (hfh_45_149)
        have hfk_1_150 : z_1[150]? = some (.ref qf150) := (hre_1 150 ).trans (hfh_45_150)
        have hfk_1_151 : z_1[151]? = some (.ref qf151) := (hre_1 151 ).trans (hfh_45_151)
        have hfk_1_152 : z_1[152]? = some (.ref qf152) := (hre_1 152 ).trans (hfh_45_152)
        have hfk_1_153 : z_1[153]? = some (.ref qf153) := (hre_1 153 ).trans (hfh_45_153)
        have hfk_1_154 : z_1[154]? = some (.ref qf154) := (hre_1 154 ).trans (hfh_45_154)
        have hrq_1 : ∀ j : Nat, j ≠ 138 → j ≠ 139 → j ≠ 149 → z_1[j]? = zs[j]? := fun j g138 g139 g149 => (hre_1 j ).trans (hrh_45 j g138 g139 g149)
        obtain rfl := hwa_1
        refine lv_icmp_ge (tgt := 215) hx hb dX13_thrown_54 (by decide) (fun c_11 => ?_) (fun c_11 => ?_)
        · rw [if_pos c_11] at hsp
          refine lv_aload_n hx hb dX13_thrown_215 rfl (lv_at hl 4 rfl) ?_
          refine lv_dup hx hb dX13_thrown_216 rfl ?_
          refine va_get (D := (dC, dI)) (ci := 13) (v := .int x149_45) (C := RX13) (T := TX13) (N := 155) hx hb hts uV_h9_X13 hown hK hP 10 rfl rfl 149 (by decide) (hts (.fieldLink RX13 1058 "ClassMillModel" "depth" "I") mw_h9_370) (fun _ h9 => h9) hfk_1_149 dX13_thrown_217 ?_
          refine lv_iconst (v := 1) hx hb dX13_thrown_220 (by decide) ?_
          refine lv_isub hx hb dX13_thrown_221 ?_
          refine va_put (D := (dC, dI)) (ci := 13) (v := .int (x149_45 - 1)) (ty := .int) (C := RX13) (T := TX13) (N := 155) hx hb hts uV_h9_X13 tyX13 tyX13_ok nmX13 hown hK hP hD hS 10 rfl rfl 149 (by decide) (hts (.fieldLink RX13 1058 "ClassMillModel" "depth" "I") mw_h9_370) (fun _ h9 => h9) rfl (by decide +kernel) rfl rfl (by rw [hln_1]; decide) dX13_thrown_222 ?_
          clear hP hD hS
          intro H locs hP hD hS
          obtain ⟨fs_12, efs_12⟩ : ∃ zf : List Value, zf = z_1.set 149 (.int (x149_45 - 1)) := ⟨_, rfl⟩
          rw [← efs_12] at hP hD
          have hlfs_12 : fs_12.length = 155 := by rw [efs_12, List.length_set]; exact hln_1
          have hfs_12_98 : fs_12[98]? = some (.int v98) := by rw [efs_12, List.getElem?_set_ne (by decide)]; exact hfk_1_98
          have hfs_12_100 : fs_12[100]? = some (.ref qf100) := by rw [efs_12, List.getElem?_set_ne (by decide)]; exact hfk_1_100
          have hfs_12_102 : fs_12[102]? = some (.ref qf102) := by rw [efs_12, List.getElem?_set_ne (by decide)]; exact hfk_1_102
          have hfs_12_104 : fs_12[104]? = some (.ref qf104) := by rw [efs_12, List.getElem?_set_ne (by decide)]; exact hfk_1_104
          have hfs_12_105 : fs_12[105]? = some (.ref qf105) := by rw [efs_12, List.getElem?_set_ne (by decide)]; exact hfk_1_105
          have hfs_12_110 : fs_12[110]? = some (.ref qf110) := by rw [efs_12, List.getElem?_set_ne (by decide)]; exact hfk_1_110
          have hfs_12_138 : fs_12[138]? = some (.int x138_45) := by rw [efs_12, List.getElem?_set_ne (by decide)]; exact hfk_1_138
          have hfs_12_139 : fs_12[139]? = some (.int x139_45) := by rw [efs_12, List.getElem?_set_ne (by decide)]; exact hfk_1_139
          have hfs_12_144 : fs_12[144]? = some (.ref qf144) := by rw [efs_12, List.getElem?_set_ne (by decide)]; exact hfk_1_144
          have hfs_12_150 : fs_12[150]? = some (.ref qf150) := by rw [efs_12, List.getElem?_set_ne (by decide)]; exact hfk_1_150
          have hfs_12_151 : fs_12[151]? = some (.ref qf151) := by rw [efs_12, List.getElem?_set_ne (by decide)]; exact hfk_1_151
          have hfs_12_152 : fs_12[152]? = some (.ref qf152) := by rw [efs_12, List.getElem?_set_ne (by decide)]; exact hfk_1_152
          have hfs_12_153 : fs_12[153]? = some (.ref qf153) := by rw [efs_12, List.getElem?_set_ne (by decide)]; exact hfk_1_153
          have hfs_12_154 : fs_12[154]? = some (.ref qf154) := by rw [efs_12, List.getElem?_set_ne (by decide)]; exact hfk_1_154
          have hfs_12_149 : fs_12[149]? = some (.int (x149_45 - 1)) := by rw [efs_12, List.getElem?_set_self (by rw [hln_1]; decide)]
          replace hP : va_P (dC, dI) vwCl [(qf144, .inl (cf144, 2001, .inl f144)), (qf150, .inl (cf150, 60, .inl f150)), (qf151, .inl (cf151, 60, .inl f151)), (qf110, .inl (cf110, 96, .inl f110)), (qf152, .inl (cf152, 60, .inl g152_45)), (qf102, .inl (cf102, 2048, .inl f102)), (qf104, .inl (cf104, 8, .inl f104)), (qf105, .inl (cf105, 8, .inl f105)), (qf153, .inl (cf153, 60, .inl g153_45)), (qf154, .inl (cf154, 3600, .inl g154_45)), (h0, .inr (13, fs_12)), (qf100, .inl (cf100, 48000, .inl f100))] H := hP
          replace hD : va_D A [(qf144, .inl (cf144, 2001, .inl f144)), (qf150, .inl (cf150, 60, .inl f150)), (qf151, .inl (cf151, 60, .inl f151)), (qf110, .inl (cf110, 96, .inl f110)), (qf152, .inl (cf152, 60, .inl g152_45)), (qf102, .inl (cf102, 2048, .inl f102)), (qf104, .inl (cf104, 8, .inl f104)), (qf105, .inl (cf105, 8, .inl f105)), (qf153, .inl (cf153, 60, .inl g153_45)), (qf154, .inl (cf154, 3600, .inl g154_45)), (h0, .inr (13, fs_12)), (qf100, .inl (cf100, 48000, .inl f100))] := hD
          have hrs_13 : ∀ j : Nat, j ≠ 138 → j ≠ 139 → j ≠ 149 → fs_12[j]? = zs[j]? := fun j g138 g139 g149 => ((congrArg (fun z : List Value => z[j]?) efs_12).trans (List.getElem?_set_ne (Ne.symm g149))).trans (hrq_1 j g138 g139 g149)
          refine lv_goto (tgt := 0) hx hb dX13_thrown_225 (by decide) ?_
          exact ih_0 H locs ls fs_12 l1_45 g152_45 g153_45 g154_45 x138_45 x139_45 (x149_45 - 1) (hfs_12_98) (hfs_12_100) (hfs_12_102) (hfs_12_104) (hfs_12_105) (hfs_12_110) (hfs_12_138) (hfs_12_139) (hfs_12_144) (hfs_12_149) (hfs_12_150) (hfs_12_151) (hfs_12_152) (hfs_12_153) (hfs_12_154) hlfs_12 hrs_13 (lv_sub hl [4, 5] rfl) hS (hD.sub (ws' := [(h0, .inr (13, fs_12)), (qf144, .inl (cf144, 2001, .inl f144)), (qf150, .inl (cf150, 60, .inl f150)), (qf151, .inl (cf151, 60, .inl f151)), (qf110, .inl (cf110, 96, .inl f110)), (qf100, .inl (cf100, 48000, .inl f100)), (qf152, .inl (cf152, 60, .inl g152_45)), (qf102, .inl (cf102, 2048, .inl f102)), (qf104, .inl (cf104, 8, .inl f104)), (qf105, .inl (cf105, 8, .inl f105)), (qf153, .inl (cf153, 60, .inl g153_45)), (qf154, .inl (cf154, 3600, .inl g154_45))]) [10, 0, 1, 2, 3, 11, 4, 5, 6, 7, 8, 9] (by decide) rfl) (hP.sub (ws' := [(h0, .inr (13, fs_12)), (qf144, .inl (cf144, 2001, .inl f144)), (qf150, .inl (cf150, 60, .inl f150)), (qf151, .inl (cf151, 60, .inl f151)), (qf110, .inl (cf110, 96, .inl f110)), (qf100, .inl (cf100, 48000, .inl f100)), (qf152, .inl (cf152, 60, .inl g152_45)), (qf102, .inl (cf102, 2048, .inl f102)), (qf104, .inl (cf104, 8, .inl f104)), (qf105, .inl (cf105, 8, .inl f105)), (qf153, .inl (cf153, 60, .inl g153_45)), (qf154, .inl (cf154, 3600, .inl g154_45))]) [10, 0, 1, 2, 3, 11, 4, 5, 6, 7, 8, 9] rfl) hsp
        · rw [if_neg c_11] at hsp
          refine lv_iload hx hb dX13_thrown_57 (lv_at hl 1 rfl) ?_
          refine lv_iconst (v := 1) hx hb dX13_thrown_59 (by decide) ?_
          refine lv_iadd hx hb dX13_thrown_60 ?_
          refine lv_bipush (v := 7) hx hb dX13_thrown_61 (by decide) ?_
          refine lv_iload hx hb dX13_thrown_63 (lv_at hl 0 rfl) ?_
          refine lv_imul hx hb dX13_thrown_65 ?_
          refine lv_iadd hx hb dX13_thrown_66 ?_
          refine lv_istore (lv' := [(6, .int ((l4_45 + 1) + (7 * l5_45))), (5, .int l5_45), (4, .int l4_45), (3, .int l3_45), (2, .int l2_45), (0, .ref h0), (1, .int l1_45)]) hx hb dX13_thrown_67 hl (by decide) rfl (fun ls hl => ?_)
          refine lv_aload_n hx hb dX13_thrown_69 rfl (lv_at hl 5 rfl) ?_
          refine lv_iload_n hx hb dX13_thrown_70 rfl (lv_at hl 3 rfl) ?_
          refine lv_iload hx hb dX13_thrown_71 (lv_at hl 0 rfl) ?_
          obtain ⟨u2_0, hu_2, hsp⟩ := ox_bind hsp
          try dsimp only at hsp
          have hPc := hP.sub (ws' := [(h0, .inr (13, z_1)), (qf100, .inl (cf100, 48000, .inl f100))]) [10, 11] rfl
          have hDc := hD.sub (ws' := [(h0, .inr (13, z_1)), (qf100, .inl (cf100, 48000, .inl f100))]) [10, 11] (by decide) rfl
          have hKc := hK.sub (tys' := [(cf100, .int)]) [10] rfl
          have hFc := va_free (wc := [(h0, .inr (13, z_1)), (qf100, .inl (cf100, 48000, .inl f100))]) hD hS hA [10, 11] rfl
          refine va_calli (va_runV (As := [.int l3_45, .int ((l4_45 + 1) + (7 * l5_45))]) (rest := []) ⟨hx, hb, hml, hown, hts⟩ (tm_byteAt l dC dI H.size h0 z_1 l3_45 (((l4_45 + 1) + (7 * l5_45))) qf100 cf100 f100 nf u2_0 hln_1 hfk_1_100 hu_2) (cwV 2 hts gv_h9_58 rfl rfl rfl (by decide +kernel) ⟨Nat.le_of_ble_eq_true rfl, Nat.le_of_ble_eq_true rfl⟩) ⟨fun a U g mk q => by obtain ⟨q0, q1, qP, qK, qD⟩ := q; exact ⟨q0, q1, qP, va_K.moved (u := U) (U := U.calling g mk a) (Vm.Alike.refl U.vm) qK, qD⟩, va_recv hKc hPc (ci := 13) (q0 := 0) rfl rfl, fun U hU hW => ⟨rfl, by rw [hU], by rw [hU]; exact hPc, va_K.moved hW.alike hKc, hDc.weaken (fun _ _ _ _ => trivial)⟩⟩ rfl rfl hl.1 rfl (lv_room (Nat.le_of_ble_eq_true rfl)) dX13_thrown_73 ⟨Nat.le_of_ble_eq_true rfl, Nat.le_of_ble_eq_true rfl⟩) hS (fun q _ h => hFc q h) hFc ?_
          clear hS
          intro r_14 u t H1 locs ht hvm hw hB hz1 hk1 hS
          obtain ⟨z_2, rfl⟩ : ∃ z, z = u := ⟨_, rfl⟩
          obtain ⟨hP1, hK1, hD1⟩ := hB
          rw [ht] at hP1
          have hK1 := va_K.moved hvm.symm hK1
          try dsimp only at hw
          have hPD := va_join (wr := [(qf144, .inl (cf144, 2001, .inl f144)), (qf150, .inl (cf150, 60, .inl f150)), (qf151, .inl (cf151, 60, .inl f151)), (qf110, .inl (cf110, 96, .inl f110)), (qf152, .inl (cf152, 60, .inl g152_45)), (qf102, .inl (cf102, 2048, .inl f102)), (qf104, .inl (cf104, 8, .inl f104)), (qf105, .inl (cf105, 8, .inl f105)), (qf153, .inl (cf153, 60, .inl g153_45)), (qf154, .inl (cf154, 3600, .inl g154_45))]) (w1 := [(h0, .inr (13, z_2)), (qf100, .inl (cf100, 48000, .inl f100))]) hP hD [10, 11] [0, 1, 2, 3, 4, 5, 6, 7, 8, 9] rfl rfl (by decide) (by decide) hk1 hFc hP1 hD1
          clear hP hD
          obtain ⟨hP, hD⟩ := hPD
          replace hK := (hK.sub (tys' := [(cf144, .int), (cf150, .int), (cf151, .int), (cf110, .int), (cf152, .int), (cf102, .int), (cf104, .int), (cf105, .int), (cf153, .int), (cf154, .int)]) [0, 1, 2, 3, 4, 5, 6, 7, 8, 9] rfl).app hK1
          clear hPc hDc hKc hFc hP1 hK1 hD1 hz1 hk1 ht hvm
          generalize H1 = H at hP hS ⊢
          replace hP : va_P (dC, dI) vwCl [(qf144, .inl (cf144, 2001, .inl f144)), (qf150, .inl (cf150, 60, .inl f150)), (qf151, .inl (cf151, 60, .inl f151)), (qf110, .inl (cf110, 96, .inl f110)), (qf152, .inl (cf152, 60, .inl g152_45)), (qf102, .inl (cf102, 2048, .inl f102)), (qf104, .inl (cf104, 8, .inl f104)), (qf105, .inl (cf105, 8, .inl f105)), (qf153, .inl (cf153, 60, .inl g153_45)), (qf154, .inl (cf154, 3600, .inl g154_45)), (h0, .inr (13, z_2)), (qf100, .inl (cf100, 48000, .inl f100))] H := hP
          replace hD : va_D A [(qf144, .inl (cf144, 2001, .inl f144)), (qf150, .inl (cf150, 60, .inl f150)), (qf151, .inl (cf151, 60, .inl f151)), (qf110, .inl (cf110, 96, .inl f110)), (qf152, .inl (cf152, 60, .inl g152_45)), (qf102, .inl (cf102, 2048, .inl f102)), (qf104, .inl (cf104, 8, .inl f104)), (qf105, .inl (cf105, 8, .inl f105)), (qf153, .inl (cf153, 60, .inl g153_45)), (qf154, .inl (cf154, 3600, .inl g154_45)), (h0, .inr (13, z_2)), (qf100, .inl (cf100, 48000, .inl f100))] := hD
          replace hK : va_K (dC, dI) vwCl [(cf144, .int), (cf150, .int), (cf151, .int), (cf110, .int), (cf152, .int), (cf102, .int), (cf104, .int), (cf105, .int), (cf153, .int), (cf154, .int), (cf100, .int)] s := hK
          obtain ⟨hwa_2, hln_2, hre_2⟩ := hw
          have hfk_2_98 : z_2[98]? = some (.int v98) := (hre_2 98 ).trans (hfk_1_98)
          have hfk_2_100 : z_2[100]? = some (.ref qf100) := (hre_2 100 ).trans (hfk_1_100)
          have hfk_2_102 : z_2[102]? = some (.ref qf102) := (hre_2 102 ).trans (hfk_1_102)
          have hfk_2_104 : z_2[104]? = some (.ref qf104) := (hre_2 104 ).trans (hfk_1_104)
          have hfk_2_105 : z_2[105]? = some (.ref qf105) := (hre_2 105 ).trans (hfk_1_105)
          have hfk_2_110 : z_2[110]? = some (.ref qf110) := (hre_2 110 ).trans (hfk_1_110)
          have hfk_2_138 : z_2[138]? = some (.int x138_45) := (hre_2 138 ).trans (hfk_1_138)
          have hfk_2_139 : z_2[139]? = some (.int x139_45) := (hre_2 139 ).trans (hfk_1_139)
          have hfk_2_144 : z_2[144]? = some (.ref qf144) := (hre_2 144 ).trans (hfk_1_144)
          have hfk_2_149 : z_2[149]? = some (.int x149_45) := (hre_2 149 ).trans (hfk_1_149)
          have hfk_2_150 : z_2[150]? = some (.ref qf150) := (hre_2 150 ).trans (hfk_1_150)
          have hfk_2_151 : z_2[151]? = some (.ref qf151) := (hre_2 151 ).trans (hfk_1_151)
          have hfk_2_152 : z_2[152]? = some (.ref qf152) := (hre_2 152 ).trans (hfk_1_152)
          have hfk_2_153 : z_2[153]? = some (.ref qf153) := (hre_2 153 ).trans (hfk_1_153)
          have hfk_2_154 : z_2[154]? = some (.ref qf154) := (hre_2 154 ).trans (hfk_1_154)
          have hrq_2 : ∀ j : Nat, j ≠ 138 → j ≠ 139 → j ≠ 149 → z_2[j]? = zs[j]? := fun j g138 g139 g149 => (hre_2 j ).trans (hrq_1 j g138 g139 g149)
          obtain rfl := hwa_2
          refine lv_bipush (v := 8) hx hb dX13_thrown_76 (by decide) ?_
          refine lv_ishl hx hb dX13_thrown_78 ?_
          refine lv_aload_n hx hb dX13_thrown_79 rfl (lv_at hl 5 rfl) ?_
          refine lv_iload_n hx hb dX13_thrown_80 rfl (lv_at hl 3 rfl) ?_
          refine lv_iload hx hb dX13_thrown_81 (lv_at hl 0 rfl) ?_
          refine lv_iconst (v := 1) hx hb dX13_thrown_83 (by decide) ?_
          refine lv_iadd hx hb dX13_thrown_84 ?_
          obtain ⟨u3_0, hu_3, hsp⟩ := ox_bind hsp
          try dsimp only at hsp
          have hPc := hP.sub (ws' := [(h0, .inr (13, z_2)), (qf100, .inl (cf100, 48000, .inl f100))]) [10, 11] rfl
          have hDc := hD.sub (ws' := [(h0, .inr (13, z_2)), (qf100, .inl (cf100, 48000, .inl f100))]) [10, 11] (by decide) rfl
          have hKc := hK.sub (tys' := [(cf100, .int)]) [10] rfl
          have hFc := va_free (wc := [(h0, .inr (13, z_2)), (qf100, .inl (cf100, 48000, .inl f100))]) hD hS hA [10, 11] rfl
          refine va_calli (va_runV (As := [.int l3_45, .int (((l4_45 + 1) + (7 * l5_45)) + 1)]) (rest := [.int (u2_0 <<< (8 &&& 31))]) ⟨hx, hb, hml, hown, hts⟩ (tm_byteAt l dC dI H.size h0 z_2 l3_45 ((((l4_45 + 1) + (7 * l5_45)) + 1)) qf100 cf100 f100 nf u3_0 hln_2 hfk_2_100 hu_3) (cwV 2 hts gv_h9_58 rfl rfl rfl (by decide +kernel) ⟨Nat.le_of_ble_eq_true rfl, Nat.le_of_ble_eq_true rfl⟩) ⟨fun a U g mk q => by obtain ⟨q0, q1, qP, qK, qD⟩ := q; exact ⟨q0, q1, qP, va_K.moved (u := U) (U := U.calling g mk a) (Vm.Alike.refl U.vm) qK, qD⟩, va_recv hKc hPc (ci := 13) (q0 := 0) rfl rfl, fun U hU hW => ⟨rfl, by rw [hU], by rw [hU]; exact hPc, va_K.moved hW.alike hKc, hDc.weaken (fun _ _ _ _ => trivial)⟩⟩ rfl rfl hl.1 rfl (lv_room (Nat.le_of_ble_eq_true rfl)) dX13_thrown_85 ⟨Nat.le_of_ble_eq_true rfl, Nat.le_of_ble_eq_true rfl⟩) hS (fun q _ h => hFc q h) hFc ?_
          clear hS
          intro r_15 u t H1 locs ht hvm hw hB hz1 hk1 hS
          obtain ⟨z_3, rfl⟩ : ∃ z, z = u := ⟨_, rfl⟩
          obtain ⟨hP1, hK1, hD1⟩ := hB
          rw [ht] at hP1
          have hK1 := va_K.moved hvm.symm hK1
          try dsimp only at hw
          have hPD := va_join (wr := [(qf144, .inl (cf144, 2001, .inl f144)), (qf150, .inl (cf150, 60, .inl f150)), (qf151, .inl (cf151, 60, .inl f151)), (qf110, .inl (cf110, 96, .inl f110)), (qf152, .inl (cf152, 60, .inl g152_45)), (qf102, .inl (cf102, 2048, .inl f102)), (qf104, .inl (cf104, 8, .inl f104)), (qf105, .inl (cf105, 8, .inl f105)), (qf153, .inl (cf153, 60, .inl g153_45)), (qf154, .inl (cf154, 3600, .inl g154_45))]) (w1 := [(h0, .inr (13, z_3)), (qf100, .inl (cf100, 48000, .inl f100))]) hP hD [10, 11] [0, 1, 2, 3, 4, 5, 6, 7, 8, 9] rfl rfl (by decide) (by decide) hk1 hFc hP1 hD1
          clear hP hD
          obtain ⟨hP, hD⟩ := hPD
          replace hK := (hK.sub (tys' := [(cf144, .int), (cf150, .int), (cf151, .int), (cf110, .int), (cf152, .int), (cf102, .int), (cf104, .int), (cf105, .int), (cf153, .int), (cf154, .int)]) [0, 1, 2, 3, 4, 5, 6, 7, 8, 9] rfl).app hK1
          clear hPc hDc hKc hFc hP1 hK1 hD1 hz1 hk1 ht hvm
          generalize H1 = H at hP hS ⊢
          replace hP : va_P (dC, dI) vwCl [(qf144, .inl (cf144, 2001, .inl f144)), (qf150, .inl (cf150, 60, .inl f150)), (qf151, .inl (cf151, 60, .inl f151)), (qf110, .inl (cf110, 96, .inl f110)), (qf152, .inl (cf152, 60, .inl g152_45)), (qf102, .inl (cf102, 2048, .inl f102)), (qf104, .inl (cf104, 8, .inl f104)), (qf105, .inl (cf105, 8, .inl f105)), (qf153, .inl (cf153, 60, .inl g153_45)), (qf154, .inl (cf154, 3600, .inl g154_45)), (h0, .inr (13, z_3)), (qf100, .inl (cf100, 48000, .inl f100))] H := hP
          replace hD : va_D A [(qf144, .inl (cf144, 2001, .inl f144)), (qf150, .inl (cf150, 60, .inl f150)), (qf151, .inl (cf151, 60, .inl f151)), (qf110, .inl (cf110, 96, .inl f110)), (qf152, .inl (cf152, 60, .inl g152_45)), (qf102, .inl (cf102, 2048, .inl f102)), (qf104, .inl (cf104, 8, .inl f104)), (qf105, .inl (cf105, 8, .inl f105)), (qf153, .inl (cf153, 60, .inl g153_45)), (qf154, .inl (cf154, 3600, .inl g154_45)), (h0, .inr (13, z_3)), (qf100, .inl (cf100, 48000, .inl f100))] := hD
          replace hK : va_K (dC, dI) vwCl [(cf144, .int), (cf150, .int), (cf151, .int), (cf110, .int), (cf152, .int), (cf102, .int), (cf104, .int), (cf105, .int), (cf153, .int), (cf154, .int), (cf100, .int)] s := hK
          obtain ⟨hwa_3, hln_3, hre_3⟩ := hw
          have hfk_3_98 : z_3[98]? = some (.int v98) := (hre_3 98 ).trans (hfk_2_98)
          have hfk_3_100 : z_3[100]? = some (.ref qf100) := (hre_3 100 ).trans (hfk_2_100)
          have hfk_3_102 : z_3[102]? = some (.ref qf102) := (hre_3 102 ).trans (hfk_2_102)
          have hfk_3_104 : z_3[104]? = some (.ref qf104) := (hre_3 104 ).trans (hfk_2_104)
          have hfk_3_105 : z_3[105]? = some (.ref qf105) := (hre_3 105 ).trans (hfk_2_105)
          have hfk_3_110 : z_3[110]? = some (.ref qf110) := (hre_3 110 ).trans (hfk_2_110)
          have hfk_3_138 : z_3[138]? = some (.int x138_45) := (hre_3 138 ).trans (hfk_2_138)
          have hfk_3_139 : z_3[139]? = some (.int x139_45) := (hre_3 139 ).trans (hfk_2_139)
          have hfk_3_144 : z_3[144]? = some (.ref qf144) := (hre_3 144 ).trans (hfk_2_144)
          have hfk_3_149 : z_3[149]? = some (.int x149_45) := (hre_3 149 ).trans (hfk_2_149)
          have hfk_3_150 : z_3[150]? = some (.ref qf150) := (hre_3 150 ).trans (hfk_2_150)
          have hfk_3_151 : z_3[151]? = some (.ref qf151) := (hre_3 151 ).trans (hfk_2_151)
          have hfk_3_152 : z_3[152]? = some (.ref qf152) := (hre_3 152 ).trans (hfk_2_152)
          have hfk_3_153 : z_3[153]? = some (.ref qf153) := (hre_3 153 ).trans (hfk_2_153)
          have hfk_3_154 : z_3[154]? = some (.ref qf154) := (hre_3 154 ).trans (hfk_2_154)
          have hrq_3 : ∀ j : Nat, j ≠ 138 → j ≠ 139 → j ≠ 149 → z_3[j]? = zs[j]? := fun j g138 g139 g149 => (hre_3 j ).trans (hrq_2 j g138 g139 g149)
          obtain rfl := hwa_3
          refine lv_ior hx hb dX13_thrown_88 ?_
          refine lv_istore (lv' := [(7, .int ((u2_0 <<< (8 &&& 31)) ||| u3_0)), (6, .int ((l4_45 + 1) + (7 * l5_45))), (5, .int l5_45), (4, .int l4_45), (3, .int l3_45), (2, .int l2_45), (0, .ref h0), (1, .int l1_45)]) hx hb dX13_thrown_89 hl (by decide) rfl (fun ls hl => ?_)
          refine lv_aload_n hx hb dX13_thrown_91 rfl (lv_at hl 6 rfl) ?_
          refine lv_iload_n hx hb dX13_thrown_92 rfl (lv_at hl 4 rfl) ?_
          refine lv_iload hx hb dX13_thrown_93 (lv_at hl 1 rfl) ?_
          refine lv_iconst (v := 2) hx hb dX13_thrown_95 (by decide) ?_
          refine lv_iadd hx hb dX13_thrown_96 ?_
          obtain ⟨u4_0, hu_4, hsp⟩ := ox_bind hsp
          try dsimp only at hsp
          have hPc := hP.sub (ws' := [(h0, .inr (13, z_3)), (qf100, .inl (cf100, 48000, .inl f100))]) [10, 11] rfl
          have hDc := hD.sub (ws' := [(h0, .inr (13, z_3)), (qf100, .inl (cf100, 48000, .inl f100))]) [10, 11] (by decide) rfl
          have hKc := hK.sub (tys' := [(cf100, .int)]) [10] rfl
          have hFc := va_free (wc := [(h0, .inr (13, z_3)), (qf100, .inl (cf100, 48000, .inl f100))]) hD hS hA [10, 11] rfl
          refine va_calli (va_runV (As := [.int l3_45, .int (((l4_45 + 1) + (7 * l5_45)) + 2)]) (rest := []) ⟨hx, hb, hml, hown, hts⟩ (tm_byteAt l dC dI H.size h0 z_3 l3_45 ((((l4_45 + 1) + (7 * l5_45)) + 2)) qf100 cf100 f100 nf u4_0 hln_3 hfk_3_100 hu_4) (cwV 2 hts gv_h9_58 rfl rfl rfl (by decide +kernel) ⟨Nat.le_of_ble_eq_true rfl, Nat.le_of_ble_eq_true rfl⟩) ⟨fun a U g mk q => by obtain ⟨q0, q1, qP, qK, qD⟩ := q; exact ⟨q0, q1, qP, va_K.moved (u := U) (U := U.calling g mk a) (Vm.Alike.refl U.vm) qK, qD⟩, va_recv hKc hPc (ci := 13) (q0 := 0) rfl rfl, fun U hU hW => ⟨rfl, by rw [hU], by rw [hU]; exact hPc, va_K.moved hW.alike hKc, hDc.weaken (fun _ _ _ _ => trivial)⟩⟩ rfl rfl hl.1 rfl (lv_room (Nat.le_of_ble_eq_true rfl)) dX13_thrown_97 ⟨Nat.le_of_ble_eq_true rfl, Nat.le_of_ble_eq_true rfl⟩) hS (fun q _ h => hFc q h) hFc ?_
          clear hS
          intro r_16 u t H1 locs ht hvm hw hB hz1 hk1 hS
          obtain ⟨z_4, rfl⟩ : ∃ z, z = u := ⟨_, rfl⟩
          obtain ⟨hP1, hK1, hD1⟩ := hB
          rw [ht] at hP1
          have hK1 := va_K.moved hvm.symm hK1
          try dsimp only at hw
          have hPD := va_join (wr := [(qf144, .inl (cf144, 2001, .inl f144)), (qf150, .inl (cf150, 60, .inl f150)), (qf151, .inl (cf151, 60, .inl f151)), (qf110, .inl (cf110, 96, .inl f110)), (qf152, .inl (cf152, 60, .inl g152_45)), (qf102, .inl (cf102, 2048, .inl f102)), (qf104, .inl (cf104, 8, .inl f104)), (qf105, .inl (cf105, 8, .inl f105)), (qf153, .inl (cf153, 60, .inl g153_45)), (qf154, .inl (cf154, 3600, .inl g154_45))]) (w1 := [(h0, .inr (13, z_4)), (qf100, .inl (cf100, 48000, .inl f100))]) hP hD [10, 11] [0, 1, 2, 3, 4, 5, 6, 7, 8, 9] rfl rfl (by decide) (by decide) hk1 hFc hP1 hD1
          clear hP hD
          obtain ⟨hP, hD⟩ := hPD
          replace hK := (hK.sub (tys' := [(cf144, .int), (cf150, .int), (cf151, .int), (cf110, .int), (cf152, .int), (cf102, .int), (cf104, .int), (cf105, .int), (cf153, .int), (cf154, .int)]) [0, 1, 2, 3, 4, 5, 6, 7, 8, 9] rfl).app hK1
          clear hPc hDc hKc hFc hP1 hK1 hD1 hz1 hk1 ht hvm
          generalize H1 = H at hP hS ⊢
          replace hP : va_P (dC, dI) vwCl [(qf144, .inl (cf144, 2001, .inl f144)), (qf150, .inl (cf150, 60, .inl f150)), (qf151, .inl (cf151, 60, .inl f151)), (qf110, .inl (cf110, 96, .inl f110)), (qf152, .inl (cf152, 60, .inl g152_45)), (qf102, .inl (cf102, 2048, .inl f102)), (qf104, .inl (cf104, 8, .inl f104)), (qf105, .inl (cf105, 8, .inl f105)), (qf153, .inl (cf153, 60, .inl g153_45)), (qf154, .inl (cf154, 3600, .inl g154_45)), (h0, .inr (13, z_4)), (qf100, .inl (cf100, 48000, .inl f100))] H := hP
          replace hD : va_D A [(qf144, .inl (cf144, 2001, .inl f144)), (qf150, .inl (cf150, 60, .inl f150)), (qf151, .inl (cf151, 60, .inl f151)), (qf110, .inl (cf110, 96, .inl f110)), (qf152, .inl (cf152, 60, .inl g152_45)), (qf102, .inl (cf102, 2048, .inl f102)), (qf104, .inl (cf104, 8, .inl f104)), (qf105, .inl (cf105, 8, .inl f105)), (qf153, .inl (cf153, 60, .inl g153_45)), (qf154, .inl (cf154, 3600, .inl g154_45)), (h0, .inr (13, z_4)), (qf100, .inl (cf100, 48000, .inl f100))] := hD
          replace hK : va_K (dC, dI) vwCl [(cf144, .int), (cf150, .int), (cf151, .int), (cf110, .int), (cf152, .int), (cf102, .int), (cf104, .int), (cf105, .int), (cf153, .int), (cf154, .int), (cf100, .int)] s := hK
          obtain ⟨hwa_4, hln_4, hre_4⟩ := hw
          have hfk_4_98 : z_4[98]? = some (.int v98) := (hre_4 98 ).trans (hfk_3_98)
          have hfk_4_100 : z_4[100]? = some (.ref qf100) := (hre_4 100 ).trans (hfk_3_100)
          have hfk_4_102 : z_4[102]? = some (.ref qf102) := (hre_4 102 ).trans (hfk_3_102)
          have hfk_4_104 : z_4[104]? = some (.ref qf104) := (hre_4 104 ).trans (hfk_3_104)
          have hfk_4_105 : z_4[105]? = some (.ref qf105) := (hre_4 105 ).trans (hfk_3_105)
          have hfk_4_110 : z_4[110]? = some (.ref qf110) := (hre_4 110 ).trans (hfk_3_110)
          have hfk_4_138 : z_4[138]? = some (.int x138_45) := (hre_4 138 ).trans (hfk_3_138)
          have hfk_4_139 : z_4[139]? = some (.int x139_45) := (hre_4 139 ).trans (hfk_3_139)
          have hfk_4_144 : z_4[144]? = some (.ref qf144) := (hre_4 144 ).trans (hfk_3_144)
          have hfk_4_149 : z_4[149]? = some (.int x149_45) := (hre_4 149 ).trans (hfk_3_149)
          have hfk_4_150 : z_4[150]? = some (.ref qf150) := (hre_4 150 ).trans (hfk_3_150)
          have hfk_4_151 : z_4[151]? = some (.ref qf151) := (hre_4 151 ).trans (hfk_3_151)
          have hfk_4_152 : z_4[152]? = some (.ref qf152) := (hre_4 152 ).trans (hfk_3_152)
          have hfk_4_153 : z_4[153]? = some (.ref qf153) := (hre_4 153 ).trans (hfk_3_153)
          have hfk_4_154 : z_4[154]? = some (.ref qf154) := (hre_4 154 ).trans (hfk_3_154)
          have hrq_4 : ∀ j : Nat, j ≠ 138 → j ≠ 139 → j ≠ 149 → z_4[j]? = zs[j]? := fun j g138 g139 g149 => (hre_4 j ).trans (hrq_3 j g138 g139 g149)
          obtain rfl := hwa_4
          refine lv_bipush (v := 8) hx hb dX13_thrown_100 (by decide) ?_
          refine lv_ishl hx hb dX13_thrown_102 ?_
          refine lv_aload_n hx hb dX13_thrown_103 rfl (lv_at hl 6 rfl) ?_
          refine lv_iload_n hx hb dX13_thrown_104 rfl (lv_at hl 4 rfl) ?_
          refine lv_iload hx hb dX13_thrown_105 (lv_at hl 1 rfl) ?_
          refine lv_iconst (v := 3) hx hb dX13_thrown_107 (by decide) ?_
          refine lv_iadd hx hb dX13_thrown_108 ?_
          obtain ⟨u5_0, hu_5, hsp⟩ := ox_bind hsp
          try dsimp only at hsp
          have hPc := hP.sub (ws' := [(h0, .inr (13, z_4)), (qf100, .inl (cf100, 48000, .inl f100))]) [10, 11] rfl
          have hDc := hD.sub (ws' := [(h0, .inr (13, z_4)), (qf100, .inl (cf100, 48000, .inl f100))]) [10, 11] (by decide) rfl
          have hKc := hK.sub (tys' := [(cf100, .int)]) [10] rfl
          have hFc := va_free (wc := [(h0, .inr (13, z_4)), (qf100, .inl (cf100, 48000, .inl f100))]) hD hS hA [10, 11] rfl
          refine va_calli (va_runV (As := [.int l3_45, .int (((l4_45 + 1) + (7 * l5_45)) + 3)]) (rest := [.int (u4_0 <<< (8 &&& 31))]) ⟨hx, hb, hml, hown, hts⟩ (tm_byteAt l dC dI H.size h0 z_4 l3_45 ((((l4_45 + 1) + (7 * l5_45)) + 3)) qf100 cf100 f100 nf u5_0 hln_4 hfk_4_100 hu_5) (cwV 2 hts gv_h9_58 rfl rfl rfl (by decide +kernel) ⟨Nat.le_of_ble_eq_true rfl, Nat.le_of_ble_eq_true rfl⟩) ⟨fun a U g mk q => by obtain ⟨q0, q1, qP, qK, qD⟩ := q; exact ⟨q0, q1, qP, va_K.moved (u := U) (U := U.calling g mk a) (Vm.Alike.refl U.vm) qK, qD⟩, va_recv hKc hPc (ci := 13) (q0 := 0) rfl rfl, fun U hU hW => ⟨rfl, by rw [hU], by rw [hU]; exact hPc, va_K.moved hW.alike hKc, hDc.weaken (fun _ _ _ _ => trivial)⟩⟩ rfl rfl hl.1 rfl (lv_room (Nat.le_of_ble_eq_true rfl)) dX13_thrown_109 ⟨Nat.le_of_ble_eq_true rfl, Nat.le_of_ble_eq_true rfl⟩) hS (fun q _ h => hFc q h) hFc ?_
          clear hS
          intro r_17 u t H1 locs ht hvm hw hB hz1 hk1 hS
          obtain ⟨z_5, rfl⟩ : ∃ z, z = u := ⟨_, rfl⟩
          obtain ⟨hP1, hK1, hD1⟩ := hB
          rw [ht] at hP1
          have hK1 := va_K.moved hvm.symm hK1
          try dsimp only at hw
          have hPD := va_join (wr := [(qf144, .inl (cf144, 2001, .inl f144)), (qf150, .inl (cf150, 60, .inl f150)), (qf151, .inl (cf151, 60, .inl f151)), (qf110, .inl (cf110, 96, .inl f110)), (qf152, .inl (cf152, 60, .inl g152_45)), (qf102, .inl (cf102, 2048, .inl f102)), (qf104, .inl (cf104, 8, .inl f104)), (qf105, .inl (cf105, 8, .inl f105)), (qf153, .inl (cf153, 60, .inl g153_45)), (qf154, .inl (cf154, 3600, .inl g154_45))]) (w1 := [(h0, .inr (13, z_5)), (qf100, .inl (cf100, 48000, .inl f100))]) hP hD [10, 11] [0, 1, 2, 3, 4, 5, 6, 7, 8, 9] rfl rfl (by decide) (by decide) hk1 hFc hP1 hD1
          clear hP hD
          obtain ⟨hP, hD⟩ := hPD
          replace hK := (hK.sub (tys' := [(cf144, .int), (cf150, .int), (cf151, .int), (cf110, .int), (cf152, .int), (cf102, .int), (cf104, .int), (cf105, .int), (cf153, .int), (cf154, .int)]) [0, 1, 2, 3, 4, 5, 6, 7, 8, 9] rfl).app hK1
          clear hPc hDc hKc hFc hP1 hK1 hD1 hz1 hk1 ht hvm
          generalize H1 = H at hP hS ⊢
          replace hP : va_P (dC, dI) vwCl [(qf144, .inl (cf144, 2001, .inl f144)), (qf150, .inl (cf150, 60, .inl f150)), (qf151, .inl (cf151, 60, .inl f151)), (qf110, .inl (cf110, 96, .inl f110)), (qf152, .inl (cf152, 60, .inl g152_45)), (qf102, .inl (cf102, 2048, .inl f102)), (qf104, .inl (cf104, 8, .inl f104)), (qf105, .inl (cf105, 8, .inl f105)), (qf153, .inl (cf153, 60, .inl g153_45)), (qf154, .inl (cf154, 3600, .inl g154_45)), (h0, .inr (13, z_5)), (qf100, .inl (cf100, 48000, .inl f100))] H := hP
          replace hD : va_D A [(qf144, .inl (cf144, 2001, .inl f144)), (qf150, .inl (cf150, 60, .inl f150)), (qf151, .inl (cf151, 60, .inl f151)), (qf110, .inl (cf110, 96, .inl f110)), (qf152, .inl (cf152, 60, .inl g152_45)), (qf102, .inl (cf102, 2048, .inl f102)), (qf104, .inl (cf104, 8, .inl f104)), (qf105, .inl (cf105, 8, .inl f105)), (qf153, .inl (cf153, 60, .inl g153_45)), (qf154, .inl (cf154, 3600, .inl g154_45)), (h0, .inr (13, z_5)), (qf100, .inl (cf100, 48000, .inl f100))] := hD
          replace hK : va_K (dC, dI) vwCl [(cf144, .int), (cf150, .int), (cf151, .int), (cf110, .int), (cf152, .int), (cf102, .int), (cf104, .int), (cf105, .int), (cf153, .int), (cf154, .int), (cf100, .int)] s := hK
          obtain ⟨hwa_5, hln_5, hre_5⟩ := hw
          have hfk_5_98 : z_5[98]? = some (.int v98) := (hre_5 98 ).trans (hfk_4_98)
          have hfk_5_100 : z_5[100]? = some (.ref qf100) := (hre_5 100 ).trans (hfk_4_100)
          have hfk_5_102 : z_5[102]? = some (.ref qf102) := (hre_5 102 ).trans (hfk_4_102)
          have hfk_5_104 : z_5[104]? = some (.ref qf104) := (hre_5 104 ).trans (hfk_4_104)
          have hfk_5_105 : z_5[105]? = some (.ref qf105) := (hre_5 105 ).trans (hfk_4_105)
          have hfk_5_110 : z_5[110]? = some (.ref qf110) := (hre_5 110 ).trans (hfk_4_110)
          have hfk_5_138 : z_5[138]? = some (.int x138_45) := (hre_5 138 ).trans (hfk_4_138)
          have hfk_5_139 : z_5[139]? = some (.int x139_45) := (hre_5 139 ).trans (hfk_4_139)
          have hfk_5_144 : z_5[144]? = some (.ref qf144) := (hre_5 144 ).trans (hfk_4_144)
          have hfk_5_149 : z_5[149]? = some (.int x149_45) := (hre_5 149 ).trans (hfk_4_149)
          have hfk_5_150 : z_5[150]? = some (.ref qf150) := (hre_5 150 ).trans (hfk_4_150)
          have hfk_5_151 : z_5[151]? = some (.ref qf151) := (hre_5 151 ).trans (hfk_4_151)
          have hfk_5_152 : z_5[152]? = some (.ref qf152) := (hre_5 152 ).trans (hfk_4_152)
          have hfk_5_153 : z_5[153]? = some (.ref qf153) := (hre_5 153 ).trans (hfk_4_153)
          have hfk_5_154 : z_5[154]? = some (.ref qf154) := (hre_5 154 ).trans (hfk_4_154)
          have hrq_5 : ∀ j : Nat, j ≠ 138 → j ≠ 139 → j ≠ 149 → z_5[j]? = zs[j]? := fun j g138 g139 g149 => (hre_5 j ).trans (hrq_4 j g138 g139 g149)
          obtain rfl := hwa_5
          refine lv_ior hx hb dX13_thrown_112 ?_
          refine lv_istore (lv' := [(8, .int ((u4_0 <<< (8 &&& 31)) ||| u5_0)), (7, .int ((u2_0 <<< (8 &&& 31)) ||| u3_0)), (6, .int ((l4_45 + 1) + (7 * l5_45))), (5, .int l5_45), (4, .int l4_45), (3, .int l3_45), (2, .int l2_45), (0, .ref h0), (1, .int l1_45)]) hx hb dX13_thrown_113 hl (by decide) rfl (fun ls hl => ?_)
          refine lv_aload_n hx hb dX13_thrown_115 rfl (lv_at hl 7 rfl) ?_
          refine va_get (D := (dC, dI)) (ci := 13) (v := .ref qf152) (C := RX13) (T := TX13) (N := 155) hx hb hts uV_h9_X13 hown hK hP 10 rfl rfl 152 (by decide) (hts (.fieldLink RX13 300 "ClassMillModel" "runPlace" "[I") mw_h9_389) (fun _ h9 => h9) hfk_5_152 dX13_thrown_116 ?_
          refine lv_iload_n hx hb dX13_thrown_119 rfl (lv_at hl 6 rfl) ?_
          obtain ⟨hi_18, hsp⟩ := ox_in hsp
          refine va_iald hx hb hK hP 4 4 rfl rfl (i := l2_45) hi_18 dX13_thrown_120 ?_
          refine lv_iload hx hb dX13_thrown_121 (lv_at hl 1 rfl) ?_
          refine lv_icmp_lt (tgt := 209) hx hb dX13_thrown_123 (by decide) (fun c_19 => ?_) (fun c_19 => ?_)
          · rw [if_pos c_19] at hsp
            refine lv_iinc (v := (l5_45 + 1)) (lv' := [(5, .int (l5_45 + 1)), (8, .int ((u4_0 <<< (8 &&& 31)) ||| u5_0)), (7, .int ((u2_0 <<< (8 &&& 31)) ||| u3_0)), (6, .int ((l4_45 + 1) + (7 * l5_45))), (4, .int l4_45), (3, .int l3_45), (2, .int l2_45), (0, .ref h0), (1, .int l1_45)]) hx hb dX13_thrown_209 hl (k := 3) rfl rfl (by decide) rfl (fun ls hl => ?_)
            refine lv_goto (tgt := 45) hx hb dX13_thrown_212 (by decide) ?_
            exact ih_45 H locs ls z_5 l1_45 l2_45 l3_45 l4_45 (l5_45 + 1) g152_45 g153_45 g154_45 x138_45 x139_45 x149_45 (hfk_5_98) (hfk_5_100) (hfk_5_102) (hfk_5_104) (hfk_5_105) (hfk_5_110) (hfk_5_138) (hfk_5_139) (hfk_5_144) (hfk_5_149) (hfk_5_150) (hfk_5_151) (hfk_5_152) (hfk_5_153) (hfk_5_154) hln_5 hrq_5 (lv_sub hl [0, 4, 5, 6, 7, 8] rfl) hS (hD.sub (ws' := [(h0, .inr (13, z_5)), (qf144, .inl (cf144, 2001, .inl f144)), (qf150, .inl (cf150, 60, .inl f150)), (qf151, .inl (cf151, 60, .inl f151)), (qf110, .inl (cf110, 96, .inl f110)), (qf100, .inl (cf100, 48000, .inl f100)), (qf152, .inl (cf152, 60, .inl g152_45)), (qf102, .inl (cf102, 2048, .inl f102)), (qf104, .inl (cf104, 8, .inl f104)), (qf105, .inl (cf105, 8, .inl f105)), (qf153, .inl (cf153, 60, .inl g153_45)), (qf154, .inl (cf154, 3600, .inl g154_45))]) [10, 0, 1, 2, 3, 11, 4, 5, 6, 7, 8, 9] (by decide) rfl) (hP.sub (ws' := [(h0, .inr (13, z_5)), (qf144, .inl (cf144, 2001, .inl f144)), (qf150, .inl (cf150, 60, .inl f150)), (qf151, .inl (cf151, 60, .inl f151)), (qf110, .inl (cf110, 96, .inl f110)), (qf100, .inl (cf100, 48000, .inl f100)), (qf152, .inl (cf152, 60, .inl g152_45)), (qf102, .inl (cf102, 2048, .inl f102)), (qf104, .inl (cf104, 8, .inl f104)), (qf105, .inl (cf105, 8, .inl f105)), (qf153, .inl (cf153, 60, .inl g153_45)), (qf154, .inl (cf154, 3600, .inl g154_45))]) [10, 0, 1, 2, 3, 11, 4, 5, 6, 7, 8, 9] rfl) hsp
          · rw [if_neg c_19] at hsp
            refine lv_aload_n hx hb dX13_thrown_126 rfl (lv_at hl 7 rfl) ?_
            refine va_get (D := (dC, dI)) (ci := 13) (v := .ref qf152) (C := RX13) (T := TX13) (N := 155) hx hb hts uV_h9_X13 hown hK hP 10 rfl rfl 152 (by decide) (hts (.fieldLink RX13 300 "ClassMillModel" "runPlace" "[I") mw_h9_389) (fun _ h9 => h9) hfk_5_152 dX13_thrown_127 ?_
            refine lv_iload_n hx hb dX13_thrown_130 rfl (lv_at hl 6 rfl) ?_
            obtain ⟨hi_20, hsp⟩ := ox_in hsp
            refine va_iald hx hb hK hP 4 4 rfl rfl (i := l2_45) hi_20 dX13_thrown_131 ?_
            refine lv_iload hx hb dX13_thrown_132 (lv_at hl 0 rfl) ?_
            refine lv_icmp_ge (tgt := 209) hx hb dX13_thrown_134 (by decide) (fun c_21 => ?_) (fun c_21 => ?_)
            · rw [if_pos c_21] at hsp
              refine lv_iinc (v := (l5_45 + 1)) (lv' := [(5, .int (l5_45 + 1)), (8, .int ((u4_0 <<< (8 &&& 31)) ||| u5_0)), (7, .int ((u2_0 <<< (8 &&& 31)) ||| u3_0)), (6, .int ((l4_45 + 1) + (7 * l5_45))), (4, .int l4_45), (3, .int l3_45), (2, .int l2_45), (0, .ref h0), (1, .int l1_45)]) hx hb dX13_thrown_209 hl (k := 3) rfl rfl (by decide) rfl (fun ls hl => ?_)
              refine lv_goto (tgt := 45) hx hb dX13_thrown_212 (by decide) ?_
              exact ih_45 H locs ls z_5 l1_45 l2_45 l3_45 l4_45 (l5_45 + 1) g152_45 g153_45 g154_45 x138_45 x139_45 x149_45 (hfk_5_98) (hfk_5_100) (hfk_5_102) (hfk_5_104) (hfk_5_105) (hfk_5_110) (hfk_5_138) (hfk_5_139) (hfk_5_144) (hfk_5_149) (hfk_5_150) (hfk_5_151) (hfk_5_152) (hfk_5_153) (hfk_5_154) hln_5 hrq_5 (lv_sub hl [0, 4, 5, 6, 7, 8] rfl) hS (hD.sub (ws' := [(h0, .inr (13, z_5)), (qf144, .inl (cf144, 2001, .inl f144)), (qf150, .inl (cf150, 60, .inl f150)), (qf151, .inl (cf151, 60, .inl f151)), (qf110, .inl (cf110, 96, .inl f110)), (qf100, .inl (cf100, 48000, .inl f100)), (qf152, .inl (cf152, 60, .inl g152_45)), (qf102, .inl (cf102, 2048, .inl f102)), (qf104, .inl (cf104, 8, .inl f104)), (qf105, .inl (cf105, 8, .inl f105)), (qf153, .inl (cf153, 60, .inl g153_45)), (qf154, .inl (cf154, 3600, .inl g154_45))]) [10, 0, 1, 2, 3, 11, 4, 5, 6, 7, 8, 9] (by decide) rfl) (hP.sub (ws' := [(h0, .inr (13, z_5)), (qf144, .inl (cf144, 2001, .inl f144)), (qf150, .inl (cf150, 60, .inl f150)), (qf151, .inl (cf151, 60, .inl f151)), (qf110, .inl (cf110, 96, .inl f110)), (qf100, .inl (cf100, 48000, .inl f100)), (qf152, .inl (cf152, 60, .inl g152_45)), (qf102, .inl (cf102, 2048, .inl f102)), (qf104, .inl (cf104, 8, .inl f104)), (qf105, .inl (cf105, 8, .inl f105)), (qf153, .inl (cf153, 60, .inl g153_45)), (qf154, .inl (cf154, 3600, .inl g154_45))]) [10, 0, 1, 2, 3, 11, 4, 5, 6, 7, 8, 9] rfl) hsp
            · rw [if_neg c_21] at hsp
              refine lv_aload_n hx hb dX13_thrown_137 rfl (lv_at hl 7 rfl) ?_
              refine lv_iload_n hx hb dX13_thrown_138 rfl (lv_at hl 8 rfl) ?_
              refine lv_aload_n hx hb dX13_thrown_139 rfl (lv_at hl 7 rfl) ?_
              refine lv_iload_n hx hb dX13_thrown_140 rfl (lv_at hl 5 rfl) ?_
              refine lv_aload_n hx hb dX13_thrown_141 rfl (lv_at hl 7 rfl) ?_
              refine lv_iload_n hx hb dX13_thrown_142 rfl (lv_at hl 5 rfl) ?_
              refine lv_aload_n hx hb dX13_thrown_143 rfl (lv_at hl 7 rfl) ?_
              refine lv_iload_n hx hb dX13_thrown_144 rfl (lv_at hl 5 rfl) ?_
              refine lv_iload hx hb dX13_thrown_145 (lv_at hl 2 rfl) ?_
              refine lv_bipush (v := 6) hx hb dX13_thrown_147 (by decide) ?_
              refine lv_iadd hx hb dX13_thrown_149 ?_
              obtain ⟨u6_0, hu_6, hsp⟩ := ox_bind hsp
              try dsimp only at hsp
              have hPc := hP.sub (ws' := [(h0, .inr (13, z_5)), (qf100, .inl (cf100, 48000, .inl f100))]) [10, 11] rfl
              have hDc := hD.sub (ws' := [(h0, .inr (13, z_5)), (qf100, .inl (cf100, 48000, .inl f100))]) [10, 11] (by decide) rfl
              have hKc := hK.sub (tys' := [(cf100, .int)]) [10] rfl
              have hFc := va_free (wc := [(h0, .inr (13, z_5)), (qf100, .inl (cf100, 48000, .inl f100))]) hD hS hA [10, 11] rfl
              refine va_calli (va_runV (As := [.int l3_45, .int (((l4_45 + 1) + (7 * l5_45)) + 6)]) (rest := [.int l3_45, .ref h0, .int l3_45, .ref h0, .int l1_45, .ref h0]) ⟨hx, hb, hml, hown, hts⟩ (tm_byteAt l dC dI H.size h0 z_5 l3_45 ((((l4_45 + 1) + (7 * l5_45)) + 6)) qf100 cf100 f100 nf u6_0 hln_5 hfk_5_100 hu_6) (cwV 2 hts gv_h9_58 rfl rfl rfl (by decide +kernel) ⟨Nat.le_of_ble_eq_true rfl, Nat.le_of_ble_eq_true rfl⟩) ⟨fun a U g mk q => by obtain ⟨q0, q1, qP, qK, qD⟩ := q; exact ⟨q0, q1, qP, va_K.moved (u := U) (U := U.calling g mk a) (Vm.Alike.refl U.vm) qK, qD⟩, va_recv hKc hPc (ci := 13) (q0 := 0) rfl rfl, fun U hU hW => ⟨rfl, by rw [hU], by rw [hU]; exact hPc, va_K.moved hW.alike hKc, hDc.weaken (fun _ _ _ _ => trivial)⟩⟩ rfl rfl hl.1 rfl (lv_room (Nat.le_of_ble_eq_true rfl)) dX13_thrown_150 ⟨Nat.le_of_ble_eq_true rfl, Nat.le_of_ble_eq_true rfl⟩) hS (fun q _ h => hFc q h) hFc ?_
              clear hS
              intro r_22 u t H1 locs ht hvm hw hB hz1 hk1 hS
              obtain ⟨z_6, rfl⟩ : ∃ z, z = u := ⟨_, rfl⟩
              obtain ⟨hP1, hK1, hD1⟩ := hB
              rw [ht] at hP1
              have hK1 := va_K.moved hvm.symm hK1
              try dsimp only at hw
              have hPD := va_join (wr := [(qf144, .inl (cf144, 2001, .inl f144)), (qf150, .inl (cf150, 60, .inl f150)), (qf151, .inl (cf151, 60, .inl f151)), (qf110, .inl (cf110, 96, .inl f110)), (qf152, .inl (cf152, 60, .inl g152_45)), (qf102, .inl (cf102, 2048, .inl f102)), (qf104, .inl (cf104, 8, .inl f104)), (qf105, .inl (cf105, 8, .inl f105)), (qf153, .inl (cf153, 60, .inl g153_45)), (qf154, .inl (cf154, 3600, .inl g154_45))]) (w1 := [(h0, .inr (13, z_6)), (qf100, .inl (cf100, 48000, .inl f100))]) hP hD [10, 11] [0, 1, 2, 3, 4, 5, 6, 7, 8, 9] rfl rfl (by decide) (by decide) hk1 hFc hP1 hD1
              clear hP hD
              obtain ⟨hP, hD⟩ := hPD
              replace hK := (hK.sub (tys' := [(cf144, .int), (cf150, .int), (cf151, .int), (cf110, .int), (cf152, .int), (cf102, .int), (cf104, .int), (cf105, .int), (cf153, .int), (cf154, .int)]) [0, 1, 2, 3, 4, 5, 6, 7, 8, 9] rfl).app hK1
              clear hPc hDc hKc hFc hP1 hK1 hD1 hz1 hk1 ht hvm
              generalize H1 = H at hP hS ⊢
              replace hP : va_P (dC, dI) vwCl [(qf144, .inl (cf144, 2001, .inl f144)), (qf150, .inl (cf150, 60, .inl f150)), (qf151, .inl (cf151, 60, .inl f151)), (qf110, .inl (cf110, 96, .inl f110)), (qf152, .inl (cf152, 60, .inl g152_45)), (qf102, .inl (cf102, 2048, .inl f102)), (qf104, .inl (cf104, 8, .inl f104)), (qf105, .inl (cf105, 8, .inl f105)), (qf153, .inl (cf153, 60, .inl g153_45)), (qf154, .inl (cf154, 3600, .inl g154_45)), (h0, .inr (13, z_6)), (qf100, .inl (cf100, 48000, .inl f100))] H := hP
              replace hD : va_D A [(qf144, .inl (cf144, 2001, .inl f144)), (qf150, .inl (cf150, 60, .inl f150)), (qf151, .inl (cf151, 60, .inl f151)), (qf110, .inl (cf110, 96, .inl f110)), (qf152, .inl (cf152, 60, .inl g152_45)), (qf102, .inl (cf102, 2048, .inl f102)), (qf104, .inl (cf104, 8, .inl f104)), (qf105, .inl (cf105, 8, .inl f105)), (qf153, .inl (cf153, 60, .inl g153_45)), (qf154, .inl (cf154, 3600, .inl g154_45)), (h0, .inr (13, z_6)), (qf100, .inl (cf100, 48000, .inl f100))] := hD
              replace hK : va_K (dC, dI) vwCl [(cf144, .int), (cf150, .int), (cf151, .int), (cf110, .int), (cf152, .int), (cf102, .int), (cf104, .int), (cf105, .int), (cf153, .int), (cf154, .int), (cf100, .int)] s := hK
              obtain ⟨hwa_6, hln_6, hre_6⟩ := hw
              have hfk_6_98 : z_6[98]? = some (.int v98) := (hre_6 98 ).trans (hfk_5_98)
              have hfk_6_100 : z_6[100]? = some (.ref qf100) := (hre_6 100 ).trans (hfk_5_100)
              have hfk_6_102 : z_6[102]? = some (.ref qf102) := (hre_6 102 ).trans (hfk_5_102)
              have hfk_6_104 : z_6[104]? = some (.ref qf104) := (hre_6 104 ).trans (hfk_5_104)
              have hfk_6_105 : z_6[105]? = some (.ref qf105) := (hre_6 105 ).trans (hfk_5_105)
              have hfk_6_110 : z_6[110]? = some (.ref qf110) := (hre_6 110 ).trans (hfk_5_110)
              have hfk_6_138 : z_6[138]? = some (.int x138_45) := (hre_6 138 ).trans (hfk_5_138)
              have hfk_6_139 : z_6[139]? = some (.int x139_45) := (hre_6 139 ).trans (hfk_5_139)
              have hfk_6_144 : z_6[144]? = some (.ref qf144) := (hre_6 144 ).trans (hfk_5_144)
              have hfk_6_149 : z_6[149]? = some (.int x149_45) := (hre_6 149 ).trans (hfk_5_149)
              have hfk_6_150 : z_6[150]? = some (.ref qf150) := (hre_6 150 ).trans (hfk_5_150)
              have hfk_6_151 : z_6[151]? = some (.ref qf151) := (hre_6 151 ).trans (hfk_5_151)
              have hfk_6_152 : z_6[152]? = some (.ref qf152) := (hre_6 152 ).trans (hfk_5_152)
              have hfk_6_153 : z_6[153]? = some (.ref qf153) := (hre_6 153 ).trans (hfk_5_153)
              have hfk_6_154 : z_6[154]? = some (.ref qf154) := (hre_6 154 ).trans (hfk_5_154)
              have hrq_6 : ∀ j : Nat, j ≠ 138 → j ≠ 139 → j ≠ 149 → z_6[j]? = zs[j]? := fun j g138 g139 g149 => (hre_6 j ).trans (hrq_5 j g138 g139 g149)
              obtain rfl := hwa_6
              obtain ⟨u7_0, hu_7, hsp⟩ := ox_bind hsp
              try dsimp only at hsp
              have hPc := hP.sub (ws' := [(h0, .inr (13, z_6)), (qf102, .inl (cf102, 2048, .inl f102)), (qf100, .inl (cf100, 48000, .inl f100))]) [10, 5, 11] rfl
              have hDc := hD.sub (ws' := [(h0, .inr (13, z_6)), (qf102, .inl (cf102, 2048, .inl f102)), (qf100, .inl (cf100, 48000, .inl f100))]) [10, 5, 11] (by decide) rfl
              have hKc := hK.sub (tys' := [(cf102, .int), (cf100, .int)]) [5, 10] rfl
              have hFc := va_free (wc := [(h0, .inr (13, z_6)), (qf102, .inl (cf102, 2048, .inl f102)), (qf100, .inl (cf100, 48000, .inl f100))]) hD hS hA [10, 5, 11] rfl
              refine va_calli (va_runV (As := [.int l3_45, .int u6_0]) (rest := [.int l3_45, .ref h0, .int l1_45, .ref h0]) ⟨hx, hb, hml, hown, hts⟩ (tm_textOfClass l dC dI H.size h0 z_6 l3_45 u6_0 qf100 qf102 cf102 f102 cf100 f100 nf u7_0 hln_6 hfk_6_100 hfk_6_102 hu_7) (cwV 2 hts gv_h9_55 rfl rfl rfl (by decide +kernel) ⟨Nat.le_of_ble_eq_true rfl, Nat.le_of_ble_eq_true rfl⟩) ⟨fun a U g mk q => by obtain ⟨q0, q1, qP, qK, qD⟩ := q; exact ⟨q0, q1, qP, va_K.moved (u := U) (U := U.calling g mk a) (Vm.Alike.refl U.vm) qK, qD⟩, va_recv hKc hPc (ci := 13) (q0 := 0) rfl rfl, fun U hU hW => ⟨rfl, by rw [hU], by rw [hU]; exact hPc, va_K.moved hW.alike hKc, hDc.weaken (fun _ _ _ _ => trivial)⟩⟩ rfl rfl hl.1 rfl (lv_room (Nat.le_of_ble_eq_true rfl)) dX13_thrown_153 ⟨Nat.le_of_ble_eq_true rfl, Nat.le_of_ble_eq_true rfl⟩) hS (fun q _ h => hFc q h) hFc ?_
              clear hS
              intro r_23 u t H1 locs ht hvm hw hB hz1 hk1 hS
              obtain ⟨z_7, rfl⟩ : ∃ z, z = u := ⟨_, rfl⟩
              obtain ⟨hP1, hK1, hD1⟩ := hB
              rw [ht] at hP1
              have hK1 := va_K.moved hvm.symm hK1
              try dsimp only at hw
              have hPD := va_join (wr := [(qf144, .inl (cf144, 2001, .inl f144)), (qf150, .inl (cf150, 60, .inl f150)), (qf151, .inl (cf151, 60, .inl f151)), (qf110, .inl (cf110, 96, .inl f110)), (qf152, .inl (cf152, 60, .inl g152_45)), (qf104, .inl (cf104, 8, .inl f104)), (qf105, .inl (cf105, 8, .inl f105)), (qf153, .inl (cf153, 60, .inl g153_45)), (qf154, .inl (cf154, 3600, .inl g154_45))]) (w1 := [(h0, .inr (13, z_7)), (qf102, .inl (cf102, 2048, .inl f102)), (qf100, .inl (cf100, 48000, .inl f100))]) hP hD [10, 5, 11] [0, 1, 2, 3, 4, 6, 7, 8, 9] rfl rfl (by decide) (by decide) hk1 hFc hP1 hD1
              clear hP hD
              obtain ⟨hP, hD⟩ := hPD
              replace hK := (hK.sub (tys' := [(cf144, .int), (cf150, .int), (cf151, .int), (cf110, .int), (cf152, .int), (cf104, .int), (cf105, .int), (cf153, .int), (cf154, .int)]) [0, 1, 2, 3, 4, 6, 7, 8, 9] rfl).app hK1
              clear hPc hDc hKc hFc hP1 hK1 hD1 hz1 hk1 ht hvm
              generalize H1 = H at hP hS ⊢
              replace hP : va_P (dC, dI) vwCl [(qf144, .inl (cf144, 2001, .inl f144)), (qf150, .inl (cf150, 60, .inl f150)), (qf151, .inl (cf151, 60, .inl f151)), (qf110, .inl (cf110, 96, .inl f110)), (qf152, .inl (cf152, 60, .inl g152_45)), (qf104, .inl (cf104, 8, .inl f104)), (qf105, .inl (cf105, 8, .inl f105)), (qf153, .inl (cf153, 60, .inl g153_45)), (qf154, .inl (cf154, 3600, .inl g154_45)), (h0, .inr (13, z_7)), (qf102, .inl (cf102, 2048, .inl f102)), (qf100, .inl (cf100, 48000, .inl f100))] H := hP
              replace hD : va_D A [(qf144, .inl (cf144, 2001, .inl f144)), (qf150, .inl (cf150, 60, .inl f150)), (qf151, .inl (cf151, 60, .inl f151)), (qf110, .inl (cf110, 96, .inl f110)), (qf152, .inl (cf152, 60, .inl g152_45)), (qf104, .inl (cf104, 8, .inl f104)), (qf105, .inl (cf105, 8, .inl f105)), (qf153, .inl (cf153, 60, .inl g153_45)), (qf154, .inl (cf154, 3600, .inl g154_45)), (h0, .inr (13, z_7)), (qf102, .inl (cf102, 2048, .inl f102)), (qf100, .inl (cf100, 48000, .inl f100))] := hD
              replace hK : va_K (dC, dI) vwCl [(cf144, .int), (cf150, .int), (cf151, .int), (cf110, .int), (cf152, .int), (cf104, .int), (cf105, .int), (cf153, .int), (cf154, .int), (cf102, .int), (cf100, .int)] s := hK
              obtain ⟨hwa_7, hln_7, hre_7⟩ := hw
              have hfk_7_98 : z_7[98]? = some (.int v98) := (hre_7 98 ).trans (hfk_6_98)
              have hfk_7_100 : z_7[100]? = some (.ref qf100) := (hre_7 100 ).trans (hfk_6_100)
              have hfk_7_102 : z_7[102]? = some (.ref qf102) := (hre_7 102 ).trans (hfk_6_102)
              have hfk_7_104 : z_7[104]? = some (.ref qf104) := (hre_7 104 ).trans (hfk_6_104)
              have hfk_7_105 : z_7[105]? = some (.ref qf105) := (hre_7 105 ).trans (hfk_6_105)
              have hfk_7_110 : z_7[110]? = some (.ref qf110) := (hre_7 110 ).trans (hfk_6_110)
              have hfk_7_138 : z_7[138]? = some (.int x138_45) := (hre_7 138 ).trans (hfk_6_138)
              have hfk_7_139 : z_7[139]? = some (.int x139_45) := (hre_7 139 ).trans (hfk_6_139)
              have hfk_7_144 : z_7[144]? = some (.ref qf144) := (hre_7 144 ).trans (hfk_6_144)
              have hfk_7_149 : z_7[149]? = some (.int x149_45) := (hre_7 149 ).trans (hfk_6_149)
              have hfk_7_150 : z_7[150]? = some (.ref qf150) := (hre_7 150 ).trans (hfk_6_150)
              have hfk_7_151 : z_7[151]? = some (.ref qf151) := (hre_7 151 ).trans (hfk_6_151)
              have hfk_7_152 : z_7[152]? = some (.ref qf152) := (hre_7 152 ).trans (hfk_6_152)
              have hfk_7_153 : z_7[153]? = some (.ref qf153) := (hre_7 153 ).trans (hfk_6_153)
              have hfk_7_154 : z_7[154]? = some (.ref qf154) := (hre_7 154 ).trans (hfk_6_154)
              have hrq_7 : ∀ j : Nat, j ≠ 138 → j ≠ 139 → j ≠ 149 → z_7[j]? = zs[j]? := fun j g138 g139 g149 => (hre_7 j ).trans (hrq_6 j g138 g139 g149)
              obtain rfl := hwa_7
              obtain ⟨u8_0, hu_8, hsp⟩ := ox_bind hsp
              try dsimp only at hsp
              have hPc := hP.sub (ws' := [(h0, .inr (13, z_7)), (qf102, .inl (cf102, 2048, .inl f102)), (qf100, .inl (cf100, 48000, .inl f100)), (qf104, .inl (cf104, 8, .inl f104))]) [9, 10, 11, 5] rfl
              have hDc := hD.sub (ws' := [(h0, .inr (13, z_7)), (qf102, .inl (cf102, 2048, .inl f102)), (qf100, .inl (cf100, 48000, .inl f100)), (qf104, .inl (cf104, 8, .inl f104))]) [9, 10, 11, 5] (by decide) rfl
              have hKc := hK.sub (tys' := [(cf102, .int), (cf100, .int), (cf104, .int)]) [9, 10, 5] rfl
              have hFc := va_free (wc := [(h0, .inr (13, z_7)), (qf102, .inl (cf102, 2048, .inl f102)), (qf100, .inl (cf100, 48000, .inl f100)), (qf104, .inl (cf104, 8, .inl f104))]) hD hS hA [9, 10, 11, 5] rfl
              refine va_calli (va_runV (As := [.int l3_45, .int u7_0]) (rest := [.int l1_45, .ref h0]) ⟨hx, hb, hml, hown, hts⟩ (vm_classAtText l dC dI H.size h0 z_7 l3_45 u7_0 v98 qf100 qf102 qf104 cf102 f102 cf100 f100 cf104 f104 nS477 fS477 hS477 qS477 tS477 nf u8_0 hln_7 hfk_7_98 hfk_7_100 hfk_7_102 hfk_7_104 hu_8) (cwV 2 hts gv_h9_97 rfl rfl rfl (by decide +kernel) ⟨Nat.le_of_ble_eq_true rfl, Nat.le_of_ble_eq_true rfl⟩) ⟨fun a U g mk q => by obtain ⟨q0, q1, qP, qK, qD, qhZWS477, qhZRS477⟩ := q; exact ⟨q0, q1, qP, va_K.moved (u := U) (U := U.calling g mk a) (Vm.Alike.refl U.vm) qK, qD, pz_W.moved (u := U) (U := U.calling g mk a) (Vm.Alike.refl U.vm) qhZWS477, vk_R.same rfl qhZRS477⟩, va_recv hKc hPc (ci := 13) (q0 := 0) rfl rfl, fun U hU hW => ⟨rfl, by rw [hU], by rw [hU]; exact hPc, va_K.moved hW.alike hKc, hDc.weaken (fun _ _ _ _ => trivial), by rw [hU]; exact ((pz_W.moved hW.alike hZWS477).kept hS.2.1).narrow hFc, vk_R.warm hW hZRS477⟩⟩ rfl rfl hl.1 rfl (lv_room (Nat.le_of_ble_eq_true rfl)) dX13_thrown_156 ⟨Nat.le_of_ble_eq_true rfl, Nat.le_of_ble_eq_true rfl⟩) hS (fun q _ h => hFc q h) hFc ?_
              clear hS
              intro r_24 u t H1 locs ht hvm hw hB hz1 hk1 hS
              obtain ⟨z_8, rfl⟩ : ∃ z, z = u := ⟨_, rfl⟩
              obtain ⟨hP1, hK1, hD1⟩ := hB
              rw [ht] at hP1
              have hK1 := va_K.moved hvm.symm hK1
              try dsimp only at hw
              have hPD := va_join (wr := [(qf144, .inl (cf144, 2001, .inl f144)), (qf150, .inl (cf150, 60, .inl f150)), (qf151, .inl (cf151, 60, .inl f151)), (qf110, .inl (cf110, 96, .inl f110)), (qf152, .inl (cf152, 60, .inl g152_45)), (qf105, .inl (cf105, 8, .inl f105)), (qf153, .inl (cf153, 60, .inl g153_45)), (qf154, .inl (cf154, 3600, .inl g154_45))]) (w1 := [(h0, .inr (13, z_8)), (qf102, .inl (cf102, 2048, .inl f102)), (qf100, .inl (cf100, 48000, .inl f100)), (qf104, .inl (cf104, 8, .inl f104))]) hP hD [9, 10, 11, 5] [0, 1, 2, 3, 4, 6, 7, 8] rfl rfl (by decide) (by decide) hk1 hFc hP1 hD1
              clear hP hD
              obtain ⟨hP, hD⟩ := hPD
              replace hK := (hK.sub (tys' := [(cf144, .int), (cf150, .int), (cf151, .int), (cf110, .int), (cf152, .int), (cf105, .int), (cf153, .int), (cf154, .int)]) [0, 1, 2, 3, 4, 6, 7, 8] rfl).app hK1
              clear hPc hDc hKc hFc hP1 hK1 hD1 hz1 hk1 ht hvm
              generalize H1 = H at hP hS ⊢
              replace hP : va_P (dC, dI) vwCl [(qf144, .inl (cf144, 2001, .inl f144)), (qf150, .inl (cf150, 60, .inl f150)), (qf151, .inl (cf151, 60, .inl f151)), (qf110, .inl (cf110, 96, .inl f110)), (qf152, .inl (cf152, 60, .inl g152_45)), (qf105, .inl (cf105, 8, .inl f105)), (qf153, .inl (cf153, 60, .inl g153_45)), (qf154, .inl (cf154, 3600, .inl g154_45)), (h0, .inr (13, z_8)), (qf102, .inl (cf102, 2048, .inl f102)), (qf100, .inl (cf100, 48000, .inl f100)), (qf104, .inl (cf104, 8, .inl f104))] H := hP
              replace hD : va_D A [(qf144, .inl (cf144, 2001, .inl f144)), (qf150, .inl (cf150, 60, .inl f150)), (qf151, .inl (cf151, 60, .inl f151)), (qf110, .inl (cf110, 96, .inl f110)), (qf152, .inl (cf152, 60, .inl g152_45)), (qf105, .inl (cf105, 8, .inl f105)), (qf153, .inl (cf153, 60, .inl g153_45)), (qf154, .inl (cf154, 3600, .inl g154_45)), (h0, .inr (13, z_8)), (qf102, .inl (cf102, 2048, .inl f102)), (qf100, .inl (cf100, 48000, .inl f100)), (qf104, .inl (cf104, 8, .inl f104))] := hD
              replace hK : va_K (dC, dI) vwCl [(cf144, .int), (cf150, .int), (cf151, .int), (cf110, .int), (cf152, .int), (cf105, .int), (cf153, .int), (cf154, .int), (cf102, .int), (cf100, .int), (cf104, .int)] s := hK
              obtain ⟨hwa_8, hln_8, hre_8⟩ := hw
              have hfk_8_98 : z_8[98]? = some (.int v98) := (hre_8 98 ).trans (hfk_7_98)
              have hfk_8_100 : z_8[100]? = some (.ref qf100) := (hre_8 100 ).trans (hfk_7_100)
              have hfk_8_102 : z_8[102]? = some (.ref qf102) := (hre_8 102 ).trans (hfk_7_102)
              have hfk_8_104 : z_8[104]? = some (.ref qf104) := (hre_8 104 ).trans (hfk_7_104)
              have hfk_8_105 : z_8[105]? = some (.ref qf105) := (hre_8 105 ).trans (hfk_7_105)
              have hfk_8_110 : z_8[110]? = some (.ref qf110) := (hre_8 110 ).trans (hfk_7_110)
              have hfk_8_138 : z_8[138]? = some (.int x138_45) := (hre_8 138 ).trans (hfk_7_138)
              have hfk_8_139 : z_8[139]? = some (.int x139_45) := (hre_8 139 ).trans (hfk_7_139)
              have hfk_8_144 : z_8[144]? = some (.ref qf144) := (hre_8 144 ).trans (hfk_7_144)
              have hfk_8_149 : z_8[149]? = some (.int x149_45) := (hre_8 149 ).trans (hfk_7_149)
              have hfk_8_150 : z_8[150]? = some (.ref qf150) := (hre_8 150 ).trans (hfk_7_150)
              have hfk_8_151 : z_8[151]? = some (.ref qf151) := (hre_8 151 ).trans (hfk_7_151)
              have hfk_8_152 : z_8[152]? = some (.ref qf152) := (hre_8 152 ).trans (hfk_7_152)
              have hfk_8_153 : z_8[153]? = some (.ref qf153) := (hre_8 153 ).trans (hfk_7_153)
              have hfk_8_154 : z_8[154]? = some (.ref qf154) := (hre_8 154 ).trans (hfk_7_154)
              have hrq_8 : ∀ j : Nat, j ≠ 138 → j ≠ 139 → j ≠ 149 → z_8[j]? = zs[j]? := fun j g138 g139 g149 => (hre_8 j ).trans (hrq_7 j g138 g139 g149)
              obtain rfl := hwa_8
              obtain ⟨u9_0, hu_9, hsp⟩ := ox_bind hsp
              try dsimp only at hsp
              have hPc := hP.sub (ws' := [(h0, .inr (13, z_8)), (qf144, .inl (cf144, 2001, .inl f144)), (qf105, .inl (cf105, 8, .inl f105)), (qf102, .inl (cf102, 2048, .inl f102)), (qf100, .inl (cf100, 48000, .inl f100)), (qf104, .inl (cf104, 8, .inl f104))]) [8, 0, 5, 9, 10, 11] rfl
              have hDc := hD.sub (ws' := [(h0, .inr (13, z_8)), (qf144, .inl (cf144, 2001, .inl f144)), (qf105, .inl (cf105, 8, .inl f105)), (qf102, .inl (cf102, 2048, .inl f102)), (qf100, .inl (cf100, 48000, .inl f100)), (qf104, .inl (cf104, 8, .inl f104))]) [8, 0, 5, 9, 10, 11] (by decide) rfl
              have hKc := hK.sub (tys' := [(cf144, .int), (cf105, .int), (cf102, .int), (cf100, .int), (cf104, .int)]) [0, 5, 8, 9, 10] rfl
              have hFc := va_free (wc := [(h0, .inr (13, z_8)), (qf144, .inl (cf144, 2001, .inl f144)), (qf105, .inl (cf105, 8, .inl f105)), (qf102, .inl (cf102, 2048, .inl f102)), (qf100, .inl (cf100, 48000, .inl f100)), (qf104, .inl (cf104, 8, .inl f104))]) hD hS hA [8, 0, 5, 9, 10, 11] rfl
              refine va_calli (va_runV (As := [.int l1_45, .int u8_0]) (rest := []) ⟨hx, hb, hml, hown, hts⟩ (vm_isOne l dC dI H.size h0 z_8 l1_45 u8_0 v98 qf100 qf102 qf104 qf105 qf144 cf144 f144 cf105 f105 cf102 f102 cf100 f100 cf104 f104 nS477 fS477 hS477 qS477 tS477 nf u9_0 hln_8 hfk_8_98 hfk_8_100 hfk_8_102 hfk_8_104 hfk_8_105 hfk_8_144 hu_9) (cwV 2 hts gv_h9_115 rfl rfl rfl (by decide +kernel) ⟨Nat.le_of_ble_eq_true rfl, Nat.le_of_ble_eq_true rfl⟩) ⟨fun a U g mk q => by obtain ⟨q0, q1, qP, qK, qD, qhZWS477, qhZRS477⟩ := q; exact ⟨q0, q1, qP, va_K.moved (u := U) (U := U.calling g mk a) (Vm.Alike.refl U.vm) qK, qD, pz_W.moved (u := U) (U := U.calling g mk a) (Vm.Alike.refl U.vm) qhZWS477, vk_R.same rfl qhZRS477⟩, va_recv hKc hPc (ci := 13) (q0 := 0) rfl rfl, fun U hU hW => ⟨rfl, by rw [hU], by rw [hU]; exact hPc, va_K.moved hW.alike hKc, hDc.weaken (fun _ _ _ _ => trivial), by rw [hU]; exact ((pz_W.moved hW.alike hZWS477).kept hS.2.1).narrow hFc, vk_R.warm hW hZRS477⟩⟩ rfl rfl hl.1 rfl (lv_room (Nat.le_of_ble_eq_true rfl)) dX13_thrown_159 ⟨Nat.le_of_ble_eq_true rfl, Nat.le_of_ble_eq_true rfl⟩) hS (fun q _ h => hFc q h) hFc ?_
              clear hS
              intro r_25 u t H1 locs ht hvm hw hB hz1 hk1 hS
              obtain ⟨z_9, rfl⟩ : ∃ z, z = u := ⟨_, rfl⟩
              obtain ⟨hP1, hK1, hD1⟩ := hB
              rw [ht] at hP1
              have hK1 := va_K.moved hvm.symm hK1
              try dsimp only at hw
              have hPD := va_join (wr := [(qf150, .inl (cf150, 60, .inl f150)), (qf151, .inl (cf151, 60, .inl f151)), (qf110, .inl (cf110, 96, .inl f110)), (qf152, .inl (cf152, 60, .inl g152_45)), (qf153, .inl (cf153, 60, .inl g153_45)), (qf154, .inl (cf154, 3600, .inl g154_45))]) (w1 := [(h0, .inr (13, z_9)), (qf144, .inl (cf144, 2001, .inl f144)), (qf105, .inl (cf105, 8, .inl f105)), (qf102, .inl (cf102, 2048, .inl f102)), (qf100, .inl (cf100, 48000, .inl f100)), (qf104, .inl (cf104, 8, .inl f104))]) hP hD [8, 0, 5, 9, 10, 11] [1, 2, 3, 4, 6, 7] rfl rfl (by decide) (by decide) hk1 hFc hP1 hD1
              clear hP hD
              obtain ⟨hP, hD⟩ := hPD
              replace hK := (hK.sub (tys' := [(cf150, .int), (cf151, .int), (cf110, .int), (cf152, .int), (cf153, .int), (cf154, .int)]) [1, 2, 3, 4, 6, 7] rfl).app hK1
              clear hPc hDc hKc hFc hP1 hK1 hD1 hz1 hk1 ht hvm
              generalize H1 = H at hP hS ⊢
              replace hP : va_P (dC, dI) vwCl [(qf150, .inl (cf150, 60, .inl f150)), (qf151, .inl (cf151, 60, .inl f151)), (qf110, .inl (cf110, 96, .inl f110)), (qf152, .inl (cf152, 60, .inl g152_45)), (qf153, .inl (cf153, 60, .inl g153_45)), (qf154, .inl (cf154, 3600, .inl g154_45)), (h0, .inr (13, z_9)), (qf144, .inl (cf144, 2001, .inl f144)), (qf105, .inl (cf105, 8, .inl f105)), (qf102, .inl (cf102, 2048, .inl f102)), (qf100, .inl (cf100, 48000, .inl f100)), (qf104, .inl (cf104, 8, .inl f104))] H := hP
              replace hD : va_D A [(qf150, .inl (cf150, 60, .inl f150)), (qf151, .inl (cf151, 60, .inl f151)), (qf110, .inl (cf110, 96, .inl f110)), (qf152, .inl (cf152, 60, .inl g152_45)), (qf153, .inl (cf153, 60, .inl g153_45)), (qf154, .inl (cf154, 3600, .inl g154_45)), (h0, .inr (13, z_9)), (qf144, .inl (cf144, 2001, .inl f144)), (qf105, .inl (cf105, 8, .inl f105)), (qf102, .inl (cf102, 2048, .inl f102)), (qf100, .inl (cf100, 48000, .inl f100)), (qf104, .inl (cf104, 8, .inl f104))] := hD
              replace hK : va_K (dC, dI) vwCl [(cf150, .int), (cf151, .int), (cf110, .int), (cf152, .int), (cf153, .int), (cf154, .int), (cf144, .int), (cf105, .int), (cf102, .int), (cf100, .int), (cf104, .int)] s := hK
              obtain ⟨hwa_9, hln_9, hre_9⟩ := hw
              have hfk_9_98 : z_9[98]? = some (.int v98) := (hre_9 98 ).trans (hfk_8_98)
              have hfk_9_100 : z_9[100]? = some (.ref qf100) := (hre_9 100 ).trans (hfk_8_100)
              have hfk_9_102 : z_9[102]? = some (.ref qf102) := (hre_9 102 ).trans (hfk_8_102)
              have hfk_9_104 : z_9[104]? = some (.ref qf104) := (hre_9 104 ).trans (hfk_8_104)
              have hfk_9_105 : z_9[105]? = some (.ref qf105) := (hre_9 105 ).trans (hfk_8_105)
              have hfk_9_110 : z_9[110]? = some (.ref qf110) := (hre_9 110 ).trans (hfk_8_110)
              have hfk_9_138 : z_9[138]? = some (.int x138_45) := (hre_9 138 ).trans (hfk_8_138)
              have hfk_9_139 : z_9[139]? = some (.int x139_45) := (hre_9 139 ).trans (hfk_8_139)
              have hfk_9_144 : z_9[144]? = some (.ref qf144) := (hre_9 144 ).trans (hfk_8_144)
              have hfk_9_149 : z_9[149]? = some (.int x149_45) := (hre_9 149 ).trans (hfk_8_149)
              have hfk_9_150 : z_9[150]? = some (.ref qf150) := (hre_9 150 ).trans (hfk_8_150)
              have hfk_9_151 : z_9[151]? = some (.ref qf151) := (hre_9 151 ).trans (hfk_8_151)
              have hfk_9_152 : z_9[152]? = some (.ref qf152) := (hre_9 152 ).trans (hfk_8_152)
              have hfk_9_153 : z_9[153]? = some (.ref qf153) := (hre_9 153 ).trans (hfk_8_153)
              have hfk_9_154 : z_9[154]? = some (.ref qf154) := (hre_9 154 ).trans (hfk_8_154)
              have hrq_9 : ∀ j : Nat, j ≠ 138 → j ≠ 139 → j ≠ 149 → z_9[j]? = zs[j]? := fun j g138 g139 g149 => (hre_9 j ).trans (hrq_8 j g138 g139 g149)
              obtain ⟨rfl, hz_9⟩ := hwa_9
              rcases hz_9 with rfl | rfl
              · rw [if_pos rfl] at hsp
                refine lv_if_ne (tgt := 168) hx hb dX13_thrown_162 (by decide) (fun c_26 => (show False by revert c_26; decide).elim) (fun c_26 => ?_)
                refine lv_goto (tgt := 209) hx hb dX13_thrown_165 (by decide) ?_
                refine lv_iinc (v := (l5_45 + 1)) (lv' := [(5, .int (l5_45 + 1)), (8, .int ((u4_0 <<< (8 &&& 31)) ||| u5_0)), (7, .int ((u2_0 <<< (8 &&& 31)) ||| u3_0)), (6, .int ((l4_45 + 1) + (7 * l5_45))), (4, .int l4_45), (3, .int l3_45), (2, .int l2_45), (0, .ref h0), (1, .int l1_45)]) hx hb dX13_thrown_209 hl (k := 3) rfl rfl (by decide) rfl (fun ls hl => ?_)
                refine lv_goto (tgt := 45) hx hb dX13_thrown_212 (by decide) ?_
                exact ih_45 H locs ls z_9 l1_45 l2_45 l3_45 l4_45 (l5_45 + 1) g152_45 g153_45 g154_45 x138_45 x139_45 x149_45 (hfk_9_98) (hfk_9_100) (hfk_9_102) (hfk_9_104) (hfk_9_105) (hfk_9_110) (hfk_9_138) (hfk_9_139) (hfk_9_144) (hfk_9_149) (hfk_9_150) (hfk_9_151) (hfk_9_152) (hfk_9_153) (hfk_9_154) hln_9 hrq_9 (lv_sub hl [0, 4, 5, 6, 7, 8] rfl) hS (hD.sub (ws' := [(h0, .inr (13, z_9)), (qf144, .inl (cf144, 2001, .inl f144)), (qf150, .inl (cf150, 60, .inl f150)), (qf151, .inl (cf151, 60, .inl f151)), (qf110, .inl (cf110, 96, .inl f110)), (qf100, .inl (cf100, 48000, .inl f100)), (qf152, .inl (cf152, 60, .inl g152_45)), (qf102, .inl (cf102, 2048, .inl f102)), (qf104, .inl (cf104, 8, .inl f104)), (qf105, .inl (cf105, 8, .inl f105)), (qf153, .inl (cf153, 60, .inl g153_45)), (qf154, .inl (cf154, 3600, .inl g154_45))]) [6, 7, 0, 1, 2, 10, 3, 9, 11, 8, 4, 5] (by decide) rfl) (hP.sub (ws' := [(h0, .inr (13, z_9)), (qf144, .inl (cf144, 2001, .inl f144)), (qf150, .inl (cf150, 60, .inl f150)), (qf151, .inl (cf151, 60, .inl f151)), (qf110, .inl (cf110, 96, .inl f110)), (qf100, .inl (cf100, 48000, .inl f100)), (qf152, .inl (cf152, 60, .inl g152_45)), (qf102, .inl (cf102, 2048, .inl f102)), (qf104, .inl (cf104, 8, .inl f104)), (qf105, .inl (cf105, 8, .inl f105)), (qf153, .inl (cf153, 60, .inl g153_45)), (qf154, .inl (cf154, 3600, .inl g154_45))]) [6, 7, 0, 1, 2, 10, 3, 9, 11, 8, 4, 5] rfl) hsp
              · rw [if_neg (by decide)] at hsp
                refine lv_if_ne (tgt := 168) hx hb dX13_thrown_162 (by decide) (fun c_27 => ?_) (fun c_27 => (show False by revert c_27; decide).elim)
                refine lv_aload_n hx hb dX13_thrown_168 rfl (lv_at hl 7 rfl) ?_
                refine va_get (D := (dC, dI)) (ci := 13) (v := .ref qf152) (C := RX13) (T := TX13) (N := 155) hx hb hts uV_h9_X13 hown hK hP 6 rfl rfl 152 (by decide) (hts (.fieldLink RX13 300 "ClassMillModel" "runPlace" "[I") mw_h9_389) (fun _ h9 => h9) hfk_9_152 dX13_thrown_169 ?_
                refine lv_iload_n hx hb dX13_thrown_172 rfl (lv_at hl 6 rfl) ?_
                refine lv_aload_n hx hb dX13_thrown_173 rfl (lv_at hl 7 rfl) ?_
                refine lv_iload_n hx hb dX13_thrown_174 rfl (lv_at hl 5 rfl) ?_
                refine lv_iload hx hb dX13_thrown_175 (lv_at hl 2 rfl) ?_
                refine lv_iconst (v := 4) hx hb dX13_thrown_177 (by decide) ?_
                refine lv_iadd hx hb dX13_thrown_178 ?_
                obtain ⟨u10_0, hu_10, hsp⟩ := ox_bind hsp
                try dsimp only at hsp
                have hPc := hP.sub (ws' := [(h0, .inr (13, z_9)), (qf100, .inl (cf100, 48000, .inl f100))]) [6, 10] rfl
                have hDc := hD.sub (ws' := [(h0, .inr (13, z_9)), (qf100, .inl (cf100, 48000, .inl f100))]) [6, 10] (by decide) rfl
                have hKc := hK.sub (tys' := [(cf100, .int)]) [9] rfl
                have hFc := va_free (wc := [(h0, .inr (13, z_9)), (qf100, .inl (cf100, 48000, .inl f100))]) hD hS hA [6, 10] rfl
                refine va_calli (va_runV (As := [.int l3_45, .int (((l4_45 + 1) + (7 * l5_45)) + 4)]) (rest := [.int l2_45, .ref qf152]) ⟨hx, hb, hml, hown, hts⟩ (tm_byteAt l dC dI H.size h0 z_9 l3_45 ((((l4_45 + 1) + (7 * l5_45)) + 4)) qf100 cf100 f100 nf u10_0 hln_9 hfk_9_100 hu_10) (cwV 2 hts gv_h9_58 rfl rfl rfl (by decide +kernel) ⟨Nat.le_of_ble_eq_true rfl, Nat.le_of_ble_eq_true rfl⟩) ⟨fun a U g mk q => by obtain ⟨q0, q1, qP, qK, qD⟩ := q; exact ⟨q0, q1, qP, va_K.moved (u := U) (U := U.calling g mk a) (Vm.Alike.refl U.vm) qK, qD⟩, va_recv hKc hPc (ci := 13) (q0 := 0) rfl rfl, fun U hU hW => ⟨rfl, by rw [hU], by rw [hU]; exact hPc, va_K.moved hW.alike hKc, hDc.weaken (fun _ _ _ _ => trivial)⟩⟩ rfl rfl hl.1 rfl (lv_room (Nat.le_of_ble_eq_true rfl)) dX13_thrown_179 ⟨Nat.le_of_ble_eq_true rfl, Nat.le_of_ble_eq_true rfl⟩) hS (fun q _ h => hFc q h) hFc ?_
                clear hS
                intro r_28 u t H1 locs ht hvm hw hB hz1 hk1 hS
                obtain ⟨z_10, rfl⟩ : ∃ z, z = u := ⟨_, rfl⟩
                obtain ⟨hP1, hK1, hD1⟩ := hB
                rw [ht] at hP1
                have hK1 := va_K.moved hvm.symm hK1
                try dsimp only at hw
                have hPD := va_join (wr := [(qf150, .inl (cf150, 60, .inl f150)), (qf151, .inl (cf151, 60, .inl f151)), (qf110, .inl (cf110, 96, .inl f110)), (qf152, .inl (cf152, 60, .inl g152_45)), (qf153, .inl (cf153, 60, .inl g153_45)), (qf154, .inl (cf154, 3600, .inl g154_45)), (qf144, .inl (cf144, 2001, .inl f144)), (qf105, .inl (cf105, 8, .inl f105)), (qf102, .inl (cf102, 2048, .inl f102)), (qf104, .inl (cf104, 8, .inl f104))]) (w1 := [(h0, .inr (13, z_10)), (qf100, .inl (cf100, 48000, .inl f100))]) hP hD [6, 10] [0, 1, 2, 3, 4, 5, 7, 8, 9, 11] rfl rfl (by decide) (by decide) hk1 hFc hP1 hD1
                clear hP hD
                obtain ⟨hP, hD⟩ := hPD
                replace hK := (hK.sub (tys' := [(cf150, .int), (cf151, .int), (cf110, .int), (cf152, .int), (cf153, .int), (cf154, .int), (cf144, .int), (cf105, .int), (cf102, .int), (cf104, .int)]) [0, 1, 2, 3, 4, 5, 6, 7, 8, 10] rfl).app hK1
                clear hPc hDc hKc hFc hP1 hK1 hD1 hz1 hk1 ht hvm
                generalize H1 = H at hP hS ⊢
                replace hP : va_P (dC, dI) vwCl [(qf150, .inl (cf150, 60, .inl f150)), (qf151, .inl (cf151, 60, .inl f151)), (qf110, .inl (cf110, 96, .inl f110)), (qf152, .inl (cf152, 60, .inl g152_45)), (qf153, .inl (cf153, 60, .inl g153_45)), (qf154, .inl (cf154, 3600, .inl g154_45)), (qf144, .inl (cf144, 2001, .inl f144)), (qf105, .inl (cf105, 8, .inl f105)), (qf102, .inl (cf102, 2048, .inl f102)), (qf104, .inl (cf104, 8, .inl f104)), (h0, .inr (13, z_10)), (qf100, .inl (cf100, 48000, .inl f100))] H := hP
                replace hD : va_D A [(qf150, .inl (cf150, 60, .inl f150)), (qf151, .inl (cf151, 60, .inl f151)), (qf110, .inl (cf110, 96, .inl f110)), (qf152, .inl (cf152, 60, .inl g152_45)), (qf153, .inl (cf153, 60, .inl g153_45)), (qf154, .inl (cf154, 3600, .inl g154_45)), (qf144, .inl (cf144, 2001, .inl f144)), (qf105, .inl (cf105, 8, .inl f105)), (qf102, .inl (cf102, 2048, .inl f102)), (qf104, .inl (cf104, 8, .inl f104)), (h0, .inr (13, z_10)), (qf100, .inl (cf100, 48000, .inl f100))] := hD
                replace hK : va_K (dC, dI) vwCl [(cf150, .int), (cf151, .int), (cf110, .int), (cf152, .int), (cf153, .int), (cf154, .int), (cf144, .int), (cf105, .int), (cf102, .int), (cf104, .int), (cf100, .int)] s := hK
                obtain ⟨hwa_10, hln_10, hre_10⟩ := hw
                have hfk_10_98 : z_10[98]? = some (.int v98) := (hre_10 98 ).trans (hfk_9_98)
                have hfk_10_100 : z_10[100]? = some (.ref qf100) := (hre_10 100 ).trans (hfk_9_100)
                have hfk_10_102 : z_10[102]? = some (.ref qf102) := (hre_10 102 ).trans (hfk_9_102)
                have hfk_10_104 : z_10[104]? = some (.ref qf104) := (hre_10 104 ).trans (hfk_9_104)
                have hfk_10_105 : z_10[105]? = some (.ref qf105) := (hre_10 105 ).trans (hfk_9_105)
                have hfk_10_110 : z_10[110]? = some (.ref qf110) := (hre_10 110 ).trans (hfk_9_110)
                have hfk_10_138 : z_10[138]? = some (.int x138_45) := (hre_10 138 ).trans (hfk_9_138)
                have hfk_10_139 : z_10[139]? = some (.int x139_45) := (hre_10 139 ).trans (hfk_9_139)
                have hfk_10_144 : z_10[144]? = some (.ref qf144) := (hre_10 144 ).trans (hfk_9_144)
                have hfk_10_149 : z_10[149]? = some (.int x149_45) := (hre_10 149 ).trans (hfk_9_149)
                have hfk_10_150 : z_10[150]? = some (.ref qf150) := (hre_10 150 ).trans (hfk_9_150)
                have hfk_10_151 : z_10[151]? = some (.ref qf151) := (hre_10 151 ).trans (hfk_9_151)
                have hfk_10_152 : z_10[152]? = some (.ref qf152) := (hre_10 152 ).trans (hfk_9_152)
                have hfk_10_153 : z_10[153]? = some (.ref qf153) := (hre_10 153 ).trans (hfk_9_153)
                have hfk_10_154 : z_10[154]? = some (.ref qf154) := (hre_10 154 ).trans (hfk_9_154)
                have hrq_10 : ∀ j : Nat, j ≠ 138 → j ≠ 139 → j ≠ 149 → z_10[j]? = zs[j]? := fun j g138 g139 g149 => (hre_10 j ).trans (hrq_9 j g138 g139 g149)
                obtain rfl := hwa_10
                refine lv_bipush (v := 8) hx hb dX13_thrown_182 (by decide) ?_
                refine lv_ishl hx hb dX13_thrown_184 ?_
                refine lv_aload_n hx hb dX13_thrown_185 rfl (lv_at hl 7 rfl) ?_
                refine lv_iload_n hx hb dX13_thrown_186 rfl (lv_at hl 5 rfl) ?_
                refine lv_iload hx hb dX13_thrown_187 (lv_at hl 2 rfl) ?_
                refine lv_iconst (v := 5) hx hb dX13_thrown_189 (by decide) ?_
                refine lv_iadd hx hb dX13_thrown_190 ?_
                obtain ⟨u11_0, hu_11, hsp⟩ := ox_bind hsp
                try dsimp only at hsp
                have hPc := hP.sub (ws' := [(h0, .inr (13, z_10)), (qf100, .inl (cf100, 48000, .inl f100))]) [10, 11] rfl
                have hDc := hD.sub (ws' := [(h0, .inr (13, z_10)), (qf100, .inl (cf100, 48000, .inl f100))]) [10, 11] (by decide) rfl
                have hKc := hK.sub (tys' := [(cf100, .int)]) [10] rfl
                have hFc := va_free (wc := [(h0, .inr (13, z_10)), (qf100, .inl (cf100, 48000, .inl f100))]) hD hS hA [10, 11] rfl
                refine va_calli (va_runV (As := [.int l3_45, .int (((l4_45 + 1) + (7 * l5_45)) + 5)]) (rest := [.int (u10_0 <<< (8 &&& 31)), .int l2_45, .ref qf152]) ⟨hx, hb, hml, hown, hts⟩ (tm_byteAt l dC dI H.size h0 z_10 l3_45 ((((l4_45 + 1) + (7 * l5_45)) + 5)) qf100 cf100 f100 nf u11_0 hln_10 hfk_10_100 hu_11) (cwV 2 hts gv_h9_58 rfl rfl rfl (by decide +kernel) ⟨Nat.le_of_ble_eq_true rfl, Nat.le_of_ble_eq_true rfl⟩) ⟨fun a U g mk q => by obtain ⟨q0, q1, qP, qK, qD⟩ := q; exact ⟨q0, q1, qP, va_K.moved (u := U) (U := U.calling g mk a) (Vm.Alike.refl U.vm) qK, qD⟩, va_recv hKc hPc (ci := 13) (q0 := 0) rfl rfl, fun U hU hW => ⟨rfl, by rw [hU], by rw [hU]; exact hPc, va_K.moved hW.alike hKc, hDc.weaken (fun _ _ _ _ => trivial)⟩⟩ rfl rfl hl.1 rfl (lv_room (Nat.le_of_ble_eq_true rfl)) dX13_thrown_191 ⟨Nat.le_of_ble_eq_true rfl, Nat.le_of_ble_eq_true rfl⟩) hS (fun q _ h => hFc q h) hFc ?_
                clear hS
                intro r_29 u t H1 locs ht hvm hw hB hz1 hk1 hS
                obtain ⟨z_11, rfl⟩ : ∃ z, z = u := ⟨_, rfl⟩
                obtain ⟨hP1, hK1, hD1⟩ := hB
                rw [ht] at hP1
                have hK1 := va_K.moved hvm.symm hK1
                try dsimp only at hw
                have hPD := va_join (wr := [(qf150, .inl (cf150, 60, .inl f150)), (qf151, .inl (cf151, 60, .inl f151)), (qf110, .inl (cf110, 96, .inl f110)), (qf152, .inl (cf152, 60, .inl g152_45)), (qf153, .inl (cf153, 60, .inl g153_45)), (qf154, .inl (cf154, 3600, .inl g154_45)), (qf144, .inl (cf144, 2001, .inl f144)), (qf105, .inl (cf105, 8, .inl f105)), (qf102, .inl (cf102, 2048, .inl f102)), (qf104, .inl (cf104, 8, .inl f104))]) (w1 := [(h0, .inr (13, z_11)), (qf100, .inl (cf100, 48000, .inl f100))]) hP hD [10, 11] [0, 1, 2, 3, 4, 5, 6, 7, 8, 9] rfl rfl (by decide) (by decide) hk1 hFc hP1 hD1
                clear hP hD
                obtain ⟨hP, hD⟩ := hPD
                replace hK := (hK.sub (tys' := [(cf150, .int), (cf151, .int), (cf110, .int), (cf152, .int), (cf153, .int), (cf154, .int), (cf144, .int), (cf105, .int), (cf102, .int), (cf104, .int)]) [0, 1, 2, 3, 4, 5, 6, 7, 8, 9] rfl).app hK1
                clear hPc hDc hKc hFc hP1 hK1 hD1 hz1 hk1 ht hvm
                generalize H1 = H at hP hS ⊢
                replace hP : va_P (dC, dI) vwCl [(qf150, .inl (cf150, 60, .inl f150)), (qf151, .inl (cf151, 60, .inl f151)), (qf110, .inl (cf110, 96, .inl f110)), (qf152, .inl (cf152, 60, .inl g152_45)), (qf153, .inl (cf153, 60, .inl g153_45)), (qf154, .inl (cf154, 3600, .inl g154_45)), (qf144, .inl (cf144, 2001, .inl f144)), (qf105, .inl (cf105, 8, .inl f105)), (qf102, .inl (cf102, 2048, .inl f102)), (qf104, .inl (cf104, 8, .inl f104)), (h0, .inr (13, z_11)), (qf100, .inl (cf100, 48000, .inl f100))] H := hP
                replace hD : va_D A [(qf150, .inl (cf150, 60, .inl f150)), (qf151, .inl (cf151, 60, .inl f151)), (qf110, .inl (cf110, 96, .inl f110)), (qf152, .inl (cf152, 60, .inl g152_45)), (qf153, .inl (cf153, 60, .inl g153_45)), (qf154, .inl (cf154, 3600, .inl g154_45)), (qf144, .inl (cf144, 2001, .inl f144)), (qf105, .inl (cf105, 8, .inl f105)), (qf102, .inl (cf102, 2048, .inl f102)), (qf104, .inl (cf104, 8, .inl f104)), (h0, .inr (13, z_11)), (qf100, .inl (cf100, 48000, .inl f100))] := hD
                replace hK : va_K (dC, dI) vwCl [(cf150, .int), (cf151, .int), (cf110, .int), (cf152, .int), (cf153, .int), (cf154, .int), (cf144, .int), (cf105, .int), (cf102, .int), (cf104, .int), (cf100, .int)] s := hK
                obtain ⟨hwa_11, hln_11, hre_11⟩ := hw
                have hfk_11_98 : z_11[98]? = some (.int v98) := (hre_11 98 ).trans (hfk_10_98)
                have hfk_11_100 : z_11[100]? = some (.ref qf100) := (hre_11 100 ).trans (hfk_10_100)
                have hfk_11_102 : z_11[102]? = some (.ref qf102) := (hre_11 102 ).trans (hfk_10_102)
                have hfk_11_104 : z_11[104]? = some (.ref qf104) := (hre_11 104 ).trans (hfk_10_104)
                have hfk_11_105 : z_11[105]? = some (.ref qf105) := (hre_11 105 ).trans (hfk_10_105)
                have hfk_11_110 : z_11[110]? = some (.ref qf110) := (hre_11 110 ).trans (hfk_10_110)
                have hfk_11_138 : z_11[138]? = some (.int x138_45) := (hre_11 138 ).trans (hfk_10_138)
                have hfk_11_139 : z_11[139]? = some (.int x139_45) := (hre_11 139 ).trans (hfk_10_139)
                have hfk_11_144 : z_11[144]? = some (.ref qf144) := (hre_11 144 ).trans (hfk_10_144)
                have hfk_11_149 : z_11[149]? = some (.int x149_45) := (hre_11 149 ).trans (hfk_10_149)
                have hfk_11_150 : z_11[150]? = some (.ref qf150) := (hre_11 150 ).trans (hfk_10_150)
                have hfk_11_151 : z_11[151]? = some (.ref qf151) := (hre_11 151 ).trans (hfk_10_151)
                have hfk_11_152 : z_11[152]? = some (.ref qf152) := (hre_11 152 ).trans (hfk_10_152)
                have hfk_11_153 : z_11[153]? = some (.ref qf153) := (hre_11 153 ).trans (hfk_10_153)
                have hfk_11_154 : z_11[154]? = some (.ref qf154) := (hre_11 154 ).trans (hfk_10_154)
                have hrq_11 : ∀ j : Nat, j ≠ 138 → j ≠ 139 → j ≠ 149 → z_11[j]? = zs[j]? := fun j g138 g139 g149 => (hre_11 j ).trans (hrq_10 j g138 g139 g149)
                obtain rfl := hwa_11
                refine lv_ior hx hb dX13_thrown_194 ?_
                obtain ⟨hi_30, hsp⟩ := ox_in hsp
                refine va_iast hx hb hK hP hD hS 3 3 rfl rfl (i := l2_45) (x := ((u10_0 <<< (8 &&& 31)) ||| u11_0)) hi_30 dX13_thrown_195 ?_
                clear hP hD hS
                intro H locs hP hD hS
                replace hP : va_P (dC, dI) vwCl [(qf150, .inl (cf150, 60, .inl f150)), (qf151, .inl (cf151, 60, .inl f151)), (qf110, .inl (cf110, 96, .inl f110)), (qf152, .inl (cf152, 60, .inl (upd g152_45 (l2_45 : Int32).toNatClampNeg ((u10_0 <<< (8 &&& 31)) ||| u11_0)))), (qf153, .inl (cf153, 60, .inl g153_45)), (qf154, .inl (cf154, 3600, .inl g154_45)), (qf144, .inl (cf144, 2001, .inl f144)), (qf105, .inl (cf105, 8, .inl f105)), (qf102, .inl (cf102, 2048, .inl f102)), (qf104, .inl (cf104, 8, .inl f104)), (h0, .inr (13, z_11)), (qf100, .inl (cf100, 48000, .inl f100))] H := hP
                replace hD : va_D A [(qf150, .inl (cf150, 60, .inl f150)), (qf151, .inl (cf151, 60, .inl f151)), (qf110, .inl (cf110, 96, .inl f110)), (qf152, .inl (cf152, 60, .inl (upd g152_45 (l2_45 : Int32).toNatClampNeg ((u10_0 <<< (8 &&& 31)) ||| u11_0)))), (qf153, .inl (cf153, 60, .inl g153_45)), (qf154, .inl (cf154, 3600, .inl g154_45)), (qf144, .inl (cf144, 2001, .inl f144)), (qf105, .inl (cf105, 8, .inl f105)), (qf102, .inl (cf102, 2048, .inl f102)), (qf104, .inl (cf104, 8, .inl f104)), (h0, .inr (13, z_11)), (qf100, .inl (cf100, 48000, .inl f100))] := hD
                refine lv_aload_n hx hb dX13_thrown_196 rfl (lv_at hl 7 rfl) ?_
                refine va_get (D := (dC, dI)) (ci := 13) (v := .ref qf153) (C := RX13) (T := TX13) (N := 155) hx hb hts uV_h9_X13 hown hK hP 10 rfl rfl 153 (by decide) (hts (.fieldLink RX13 303 "ClassMillModel" "runStack" "[I") mw_h9_390) (fun _ h9 => h9) hfk_11_153 dX13_thrown_197 ?_
                refine lv_iload_n hx hb dX13_thrown_200 rfl (lv_at hl 6 rfl) ?_
                refine lv_iconst (v := 0) hx hb dX13_thrown_201 (by decide) ?_
                obtain ⟨hi_31, hsp⟩ := ox_in hsp
                refine va_iast hx hb hK hP hD hS 4 4 rfl rfl (i := l2_45) (x := 0) hi_31 dX13_thrown_202 ?_
                clear hP hD hS
                intro H locs hP hD hS
                replace hP : va_P (dC, dI) vwCl [(qf150, .inl (cf150, 60, .inl f150)), (qf151, .inl (cf151, 60, .inl f151)), (qf110, .inl (cf110, 96, .inl f110)), (qf152, .inl (cf152, 60, .inl (upd g152_45 (l2_45 : Int32).toNatClampNeg ((u10_0 <<< (8 &&& 31)) ||| u11_0)))), (qf153, .inl (cf153, 60, .inl (upd g153_45 (l2_45 : Int32).toNatClampNeg 0))), (qf154, .inl (cf154, 3600, .inl g154_45)), (qf144, .inl (cf144, 2001, .inl f144)), (qf105, .inl (cf105, 8, .inl f105)), (qf102, .inl (cf102, 2048, .inl f102)), (qf104, .inl (cf104, 8, .inl f104)), (h0, .inr (13, z_11)), (qf100, .inl (cf100, 48000, .inl f100))] H := hP
                replace hD : va_D A [(qf150, .inl (cf150, 60, .inl f150)), (qf151, .inl (cf151, 60, .inl f151)), (qf110, .inl (cf110, 96, .inl f110)), (qf152, .inl (cf152, 60, .inl (upd g152_45 (l2_45 : Int32).toNatClampNeg ((u10_0 <<< (8 &&& 31)) ||| u11_0)))), (qf153, .inl (cf153, 60, .inl (upd g153_45 (l2_45 : Int32).toNatClampNeg 0))), (qf154, .inl (cf154, 3600, .inl g154_45)), (qf144, .inl (cf144, 2001, .inl f144)), (qf105, .inl (cf105, 8, .inl f105)), (qf102, .inl (cf102, 2048, .inl f102)), (qf104, .inl (cf104, 8, .inl f104)), (h0, .inr (13, z_11)), (qf100, .inl (cf100, 48000, .inl f100))] := hD
                refine lv_aload_n hx hb dX13_thrown_203 rfl (lv_at hl 7 rfl) ?_
                refine lv_iload_n hx hb dX13_thrown_204 rfl (lv_at hl 8 rfl) ?_
                obtain ⟨⟨g912_0, g912_1⟩, hu_12, hsp⟩ := ox_bind hsp
                try dsimp only at hsp
                have hPc := hP.sub (ws' := [(h0, .inr (13, z_11)), (qf153, .inl (cf153, 60, .inl (upd g153_45 (l2_45 : Int32).toNatClampNeg 0))), (qf154, .inl (cf154, 3600, .inl g154_45))]) [10, 4, 5] rfl
                have hDc := hD.sub (ws' := [(h0, .inr (13, z_11)), (qf153, .inl (cf153, 60, .inl (upd g153_45 (l2_45 : Int32).toNatClampNeg 0))), (qf154, .inl (cf154, 3600, .inl g154_45))]) [10, 4, 5] (by decide) rfl
                have hKc := hK.sub (tys' := [(cf153, .int), (cf154, .int)]) [4, 5] rfl
                have hFc := va_free (wc := [(h0, .inr (13, z_11)), (qf153, .inl (cf153, 60, .inl (upd g153_45 (l2_45 : Int32).toNatClampNeg 0))), (qf154, .inl (cf154, 3600, .inl g154_45))]) hD hS hA [10, 4, 5] rfl
                refine va_callv (va_runV (As := [.int l1_45]) (rest := []) ⟨hx, hb, hml, hown, hts⟩ (tm_give l dC dI H.size h0 z_11 l1_45 x149_45 qf153 qf154 cf153 ((upd g153_45 (l2_45 : Int32).toNatClampNeg 0)) cf154 g154_45 nf g912_0 g912_1 hln_11 hfk_11_149 hfk_11_153 hfk_11_154 hu_12) (cwV 1 hts gv_h9_116 rfl rfl rfl (by decide +kernel) ⟨Nat.le_of_ble_eq_true rfl, Nat.le_of_ble_eq_true rfl⟩) ⟨fun a U g mk q => by obtain ⟨q0, q1, qP, qK, qD⟩ := q; exact ⟨q0, q1, qP, va_K.moved (u := U) (U := U.calling g mk a) (Vm.Alike.refl U.vm) qK, qD⟩, va_recv hKc hPc (ci := 13) (q0 := 0) rfl rfl, fun U hU hW => ⟨rfl, by rw [hU], by rw [hU]; exact hPc, va_K.moved hW.alike hKc, hDc.weaken (fun _ _ _ _ => trivial)⟩⟩ rfl rfl hl.1 rfl (lv_room (Nat.le_of_ble_eq_true rfl)) dX13_thrown_205 ⟨Nat.le_of_ble_eq_true rfl, Nat.le_of_ble_eq_true rfl⟩) hS (fun q _ h => hFc q h) hFc ?_
                clear hS
                intro u t H1 locs ht hvm hw hB hz1 hk1 hS
                obtain ⟨z_12, rfl⟩ : ∃ z, z = u := ⟨_, rfl⟩
                obtain ⟨hP1, hK1, hD1⟩ := hB
                rw [ht] at hP1
                have hK1 := va_K.moved hvm.symm hK1
                try dsimp only at hw
                have hPD := va_join (wr := [(qf150, .inl (cf150, 60, .inl f150)), (qf151, .inl (cf151, 60, .inl f151)), (qf110, .inl (cf110, 96, .inl f110)), (qf152, .inl (cf152, 60, .inl (upd g152_45 (l2_45 : Int32).toNatClampNeg ((u10_0 <<< (8 &&& 31)) ||| u11_0)))), (qf144, .inl (cf144, 2001, .inl f144)), (qf105, .inl (cf105, 8, .inl f105)), (qf102, .inl (cf102, 2048, .inl f102)), (qf104, .inl (cf104, 8, .inl f104)), (qf100, .inl (cf100, 48000, .inl f100))]) (w1 := [(h0, .inr (13, z_12)), (qf153, .inl (cf153, 60, .inl g912_0)), (qf154, .inl (cf154, 3600, .inl g912_1))]) hP hD [10, 4, 5] [0, 1, 2, 3, 6, 7, 8, 9, 11] rfl rfl (by decide) (by decide) hk1 hFc hP1 hD1
                clear hP hD
                obtain ⟨hP, hD⟩ := hPD
                replace hK := (hK.sub (tys' := [(cf150, .int), (cf151, .int), (cf110, .int), (cf152, .int), (cf144, .int), (cf105, .int), (cf102, .int), (cf104, .int), (cf100, .int)]) [0, 1, 2, 3, 6, 7, 8, 9, 10] rfl).app hK1
                clear hPc hDc hKc hFc hP1 hK1 hD1 hz1 hk1 ht hvm
                generalize H1 = H at hP hS ⊢
                replace hP : va_P (dC, dI) vwCl [(qf150, .inl (cf150, 60, .inl f150)), (qf151, .inl (cf151, 60, .inl f151)), (qf110, .inl (cf110, 96, .inl f110)), (qf152, .inl (cf152, 60, .inl (upd g152_45 (l2_45 : Int32).toNatClampNeg ((u10_0 <<< (8 &&& 31)) ||| u11_0)))), (qf144, .inl (cf144, 2001, .inl f144)), (qf105, .inl (cf105, 8, .inl f105)), (qf102, .inl (cf102, 2048, .inl f102)), (qf104, .inl (cf104, 8, .inl f104)), (qf100, .inl (cf100, 48000, .inl f100)), (h0, .inr (13, z_12)), (qf153, .inl (cf153, 60, .inl g912_0)), (qf154, .inl (cf154, 3600, .inl g912_1))] H := hP
                replace hD : va_D A [(qf150, .inl (cf150, 60, .inl f150)), (qf151, .inl (cf151, 60, .inl f151)), (qf110, .inl (cf110, 96, .inl f110)), (qf152, .inl (cf152, 60, .inl (upd g152_45 (l2_45 : Int32).toNatClampNeg ((u10_0 <<< (8 &&& 31)) ||| u11_0)))), (qf144, .inl (cf144, 2001, .inl f144)), (qf105, .inl (cf105, 8, .inl f105)), (qf102, .inl (cf102, 2048, .inl f102)), (qf104, .inl (cf104, 8, .inl f104)), (qf100, .inl (cf100, 48000, .inl f100)), (h0, .inr (13, z_12)), (qf153, .inl (cf153, 60, .inl g912_0)), (qf154, .inl (cf154, 3600, .inl g912_1))] := hD
                replace hK : va_K (dC, dI) vwCl [(cf150, .int), (cf151, .int), (cf110, .int), (cf152, .int), (cf144, .int), (cf105, .int), (cf102, .int), (cf104, .int), (cf100, .int), (cf153, .int), (cf154, .int)] s := hK
                obtain ⟨hwa_12, hln_12, hre_12⟩ := hw
                have hfk_12_98 : z_12[98]? = some (.int v98) := (hre_12 98 ).trans (hfk_11_98)
                have hfk_12_100 : z_12[100]? = some (.ref qf100) := (hre_12 100 ).trans (hfk_11_100)
                have hfk_12_102 : z_12[102]? = some (.ref qf102) := (hre_12 102 ).trans (hfk_11_102)
                have hfk_12_104 : z_12[104]? = some (.ref qf104) := (hre_12 104 ).trans (hfk_11_104)
                have hfk_12_105 : z_12[105]? = some (.ref qf105) := (hre_12 105 ).trans (hfk_11_105)
                have hfk_12_110 : z_12[110]? = some (.ref qf110) := (hre_12 110 ).trans (hfk_11_110)
                have hfk_12_138 : z_12[138]? = some (.int x138_45) := (hre_12 138 ).trans (hfk_11_138)
                have hfk_12_139 : z_12[139]? = some (.int x139_45) := (hre_12 139 ).trans (hfk_11_139)
                have hfk_12_144 : z_12[144]? = some (.ref qf144) := (hre_12 144 ).trans (hfk_11_144)
                have hfk_12_149 : z_12[149]? = some (.int x149_45) := (hre_12 149 ).trans (hfk_11_149)
                have hfk_12_150 : z_12[150]? = some (.ref qf150) := (hre_12 150 ).trans (hfk_11_150)
                have hfk_12_151 : z_12[151]? = some (.ref qf151) := (hre_12 151 ).trans (hfk_11_151)
                have hfk_12_152 : z_12[152]? = some (.ref qf152) := (hre_12 152 ).trans (hfk_11_152)
                have hfk_12_153 : z_12[153]? = some (.ref qf153) := (hre_12 153 ).trans (hfk_11_153)
                have hfk_12_154 : z_12[154]? = some (.ref qf154) := (hre_12 154 ).trans (hfk_11_154)
                have hrq_12 : ∀ j : Nat, j ≠ 138 → j ≠ 139 → j ≠ 149 → z_12[j]? = zs[j]? := fun j g138 g139 g149 => (hre_12 j ).trans (hrq_11 j g138 g139 g149)
                have hr0 := Option.some.inj hsp
                clear hsp
                obtain ⟨hq0, hr1⟩ := Prod.mk.inj hr0
                clear hr0
                obtain ⟨hq1, hr2⟩ := Prod.mk.inj hr1
                clear hr1
                obtain ⟨hq2, hr3⟩ := Prod.mk.inj hr2
                clear hr2
                obtain ⟨hq3, hr4⟩ := Prod.mk.inj hr3
                clear hr3
                obtain ⟨hq4, hr5⟩ := Prod.mk.inj hr4
                clear hr4
                subst hq0
                subst hq1
                subst hq2
                subst hq3
                subst hq4
                subst hr5
                have hP9 := hP.sub (ws' := [(h0, .inr (13, z_12)), (qf144, .inl (cf144, 2001, .inl f144)), (qf150, .inl (cf150, 60, .inl f150)), (qf151, .inl (cf151, 60, .inl f151)), (qf110, .inl (cf110, 96, .inl f110)), (qf100, .inl (cf100, 48000, .inl f100)), (qf152, .inl (cf152, 60, .inl (upd g152_45 (l2_45 : Int32).toNatClampNeg ((u10_0 <<< (8 &&& 31)) ||| u11_0)))), (qf102, .inl (cf102, 2048, .inl f102)), (qf104, .inl (cf104, 8, .inl f104)), (qf105, .inl (cf105, 8, .inl f105)), (qf153, .inl (cf153, 60, .inl g912_0)), (qf154, .inl (cf154, 3600, .inl g912_1))]) [9, 4, 0, 1, 2, 8, 3, 6, 7, 5, 10, 11] rfl
                have hD9 := hD.sub (ws' := [(h0, .inr (13, z_12)), (qf144, .inl (cf144, 2001, .inl f144)), (qf150, .inl (cf150, 60, .inl f150)), (qf151, .inl (cf151, 60, .inl f151)), (qf110, .inl (cf110, 96, .inl f110)), (qf100, .inl (cf100, 48000, .inl f100)), (qf152, .inl (cf152, 60, .inl (upd g152_45 (l2_45 : Int32).toNatClampNeg ((u10_0 <<< (8 &&& 31)) ||| u11_0)))), (qf102, .inl (cf102, 2048, .inl f102)), (qf104, .inl (cf104, 8, .inl f104)), (qf105, .inl (cf105, 8, .inl f105)), (qf153, .inl (cf153, 60, .inl g912_0)), (qf154, .inl (cf154, 3600, .inl g912_1))]) [9, 4, 0, 1, 2, 8, 3, 6, 7, 5, 10, 11] (by decide) rfl
                have hK9 := hK.sub (tys' := [(cf144, .int), (cf150, .int), (cf151, .int), (cf110, .int), (cf100, .int), (cf152, .int), (cf102, .int), (cf104, .int), (cf105, .int), (cf153, .int), (cf154, .int)]) [4, 0, 1, 2, 8, 3, 6, 7, 5, 9, 10] rfl
                exact W.vret hx hb hr (fun t ht hW => ⟨⟨(z_12), rfl, ⟨trivial, hln_12, hrq_12, hfk_12_138, hfk_12_139, hfk_12_149⟩, by rw [ht]; exact hP9, va_K.moved hW.alike hK9, hD9⟩, hS.F ht⟩) hS.2.2 dX13_thrown_208
def sp_vm_storesIn (nf : Nat) (a1 : Int32) (a2 : Int32) (v98 : Int32) (f144 : Nat → Int32) (f105 : Nat → Int32) (f102 : Nat → Int32) (f100 : Nat → Int32) (f104 : Nat → Int32) (nS477 : Nat) (fS477 : Nat → Int32) : Option (Int32) := ((sp_vm_isOne nf a1 a2 v98 f144 f105 f102 f100 f104 nS477 fS477).bind (fun p1 => (if p1 = 0 then (some 0) else (some 1))))
