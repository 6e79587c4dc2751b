set_option maxHeartbeats 4000000 in
set_option maxRecDepth 100000 in
/-- ClassMillModel.isUnder -/
theorem vm_isUnder (l : Launch) (dC : Nat → ClassId) (dI : Nat → Nat → Nat) (sz : Nat) (h0 : Nat) (zs : (List Value)) (a1 : Int32) (a2 : Int32) (v98 : Int32) (qf100 : Nat) (qf102 : Nat) (qf104 : Nat) (qf105 : Nat) (cf105 : ClassId) (f105 : (Nat → Int32)) (cf102 : ClassId) (f102 : (Nat → Int32)) (cf100 : ClassId) (f100 : (Nat → Int32)) (cf104 : ClassId) (f104 : (Nat → Int32)) (nS477 : Nat) (fS477 : (Nat → Int32)) (hS477 : Nat) (qS477 : Nat) (tS477 : String) (nf : Nat) (r0 : Int32) (hlen : zs.length = 155) (hf98 : zs[98]? = some (.int v98)) (hf100 : zs[100]? = some (.ref qf100)) (hf102 : zs[102]? = some (.ref qf102)) (hf104 : zs[104]? = some (.ref qf104)) (hf105 : zs[105]? = some (.ref qf105)) (hsp : sp_vm_isUnder nf a1 a2 v98 f105 f102 f100 f104 nS477 fS477 = some r0) : Met l yX13_isUnder (.code yX13_isUnder cX13_isUnder 5 (some .boolean) :: VS_h9) ({ frames := 8, cells := 0, slots := 0, locals := 181 }) (va_Pc [.ref h0, .int a1, .int a2] (fun U => U.heap.size = sz ∧ va_P (dC, dI) vwCl [(h0, .inr (13, zs)), (qf105, .inl (cf105, 8, .inl f105)), (qf102, .inl (cf102, 2048, .inl f102)), (qf100, .inl (cf100, 48000, .inl f100)), (qf104, .inl (cf104, 8, .inl f104))] U.heap ∧ va_K (dC, dI) vwCl [(cf105, .int), (cf102, .int), (cf100, .int), (cf104, .int)] U ∧ va_D (fun _ => True) [(h0, .inr (13, zs)), (qf105, .inl (cf105, 8, .inl f105)), (qf102, .inl (cf102, 2048, .inl f102)), (qf100, .inl (cf100, 48000, .inl f100)), (qf104, .inl (cf104, 8, .inl f104))] ∧ pz_W nS477 fS477 hS477 qS477 (va_A [(h0, .inr (13, zs)), (qf105, .inl (cf105, 8, .inl f105)), (qf102, .inl (cf102, 2048, .inl f102)), (qf100, .inl (cf100, 48000, .inl f100)), (qf104, .inl (cf104, 8, .inl f104))] sz) U U.heap ∧ vk_R RX13 477 tS477 hS477 U)) (va_Qi (fun (r : Int32) (u : (List Value)) => match u with | (zo1) => (r0 = r ∧ (r0 = 0 ∨ r0 = 1)) ∧ zo1.length = 155 ∧ (∀ j : Nat, zo1[j]? = zs[j]?)) (fun (u : (List Value)) (t : State) => match u with | (zo1) => va_P (dC, dI) vwCl [(h0, .inr (13, zo1)), (qf105, .inl (cf105, 8, .inl f105)), (qf102, .inl (cf102, 2048, .inl f102)), (qf100, .inl (cf100, 48000, .inl f100)), (qf104, .inl (cf104, 8, .inl f104))] t.heap ∧ va_K (dC, dI) vwCl [(cf105, .int), (cf102, .int), (cf100, .int), (cf104, .int)] t ∧ va_D (va_A [(h0, .inr (13, zs)), (qf105, .inl (cf105, 8, .inl f105)), (qf102, .inl (cf102, 2048, .inl f102)), (qf100, .inl (cf100, 48000, .inl f100)), (qf104, .inl (cf104, 8, .inl f104))] sz) [(h0, .inr (13, zo1)), (qf105, .inl (cf105, 8, .inl f105)), (qf102, .inl (cf102, 2048, .inl f102)), (qf100, .inl (cf100, 48000, .inl f100)), (qf104, .inl (cf104, 8, .inl f104))]) (va_A [(h0, .inr (13, zs)), (qf105, .inl (cf105, 8, .inl f105)), (qf102, .inl (cf102, 2048, .inl f102)), (qf100, .inl (cf100, 48000, .inl f100)), (qf104, .inl (cf104, 8, .inl f104))] sz)) 0 0 (va_A [(h0, .inr (13, zs)), (qf105, .inl (cf105, 8, .inl f105)), (qf102, .inl (cf102, 2048, .inl f102)), (qf100, .inl (cf100, 48000, .inl f100)), (qf104, .inl (cf104, 8, .inl f104))] sz) := by
  refine Met.ofW (cc := cX13_isUnder) (maxL := 5) (ret := (some .boolean)) (by decide) rfl ?_
  intro p e s m args below meth c s₁ B hml hv
  obtain ⟨rfl, hsz, hP, hK, hD0, hZWS477, hZRS477⟩ := hv
  have hx := B.exec
  have hb := B.bytes
  have hr := B.returns
  have hts := atoms_spec (ws := (.code yX13_isUnder cX13_isUnder 5 (some .boolean) :: VS_h9)) B.pre
  replace hts := fun w (h : w ∈ VS_h9) => hts w (List.mem_cons_of_mem _ h)
  have hown : s.vm.findClass RX13 = some m.cls := findClass_of_methodNamed B.named
  have hlocks := B.notSynchronized
  subst hsz
  have hD := hD0.self (sz := s.heap.size)
  generalize hAe : va_A [(h0, .inr (13, zs)), (qf105, .inl (cf105, 8, .inl f105)), (qf102, .inl (cf102, 2048, .inl f102)), (qf100, .inl (cf100, 48000, .inl f100)), (qf104, .inl (cf104, 8, .inl f104))] s.heap.size = A at hD hZWS477 ⊢
  have hA : ∀ q : Nat, s.heap.size ≤ q → A q := fun q h => by rw [← hAe]; exact Or.inr h
  have hP : va_P (dC, dI) vwCl [(h0, .inr (13, zs)), (qf105, .inl (cf105, 8, .inl f105)), (qf102, .inl (cf102, 2048, .inl f102)), (qf100, .inl (cf100, 48000, .inl f100)), (qf104, .inl (cf104, 8, .inl f104))] s.heap := hP
  have hl := lv_entry ([.ref h0, .int a1, .int a2]) (n := 5) (Nat.le_of_ble_eq_true rfl)
  rw [lg_entry_eq]
  generalize (lg_sl ([.ref h0, .int a1, .int a2]) ++ List.replicate (5 - (lg_sl ([.ref h0, .int a1, .int a2])).length) Slot.unset).toArray = ls at hl ⊢
  have hl : lv_has ls 5 [(0, .ref h0), (1, .int a1), (2, .int a2)] := hl
  obtain ⟨H, hH⟩ : ∃ H : Heap, s.heap = H := ⟨_, rfl⟩
  rw [hH] at hP ⊢
  have hS : va_S A s.heap H [] := by rw [← hH]; exact va_S.rf
  obtain ⟨locs, hlo⟩ : ∃ locs : List Loc, locs = [] := ⟨_, rfl⟩
  rw [← hlo] at hS ⊢
  have hrs0 : ∀ j : Nat, zs[j]? = zs[j]? := fun _  => rfl
  unfold sp_vm_isUnder at hsp
  refine lv_iload_n hx hb dX13_isUnder_0 rfl (lv_at hl 1 rfl) ?_
  refine lv_istore_n (lv' := [(3, .int a1), (0, .ref h0), (1, .int a1), (2, .int a2)]) hx hb dX13_isUnder_1 rfl hl (by decide) rfl (fun ls hl => ?_)
  refine lv_iconst (v := 0) hx hb dX13_isUnder_2 (by decide) ?_
  refine lv_istore (lv' := [(4, .int 0), (3, .int a1), (0, .ref h0), (1, .int a1), (2, .int a2)]) hx hb dX13_isUnder_3 hl (by decide) rfl (fun ls hl => ?_)
  replace hl : lv_has ls 5 [(4, .int 0), (3, .int a1), (0, .ref h0), (2, .int a2)] := lv_sub hl [0, 1, 2, 4] rfl
  replace hP := hP.sub (ws' := [(h0, .inr (13, zs)), (qf105, .inl (cf105, 8, .inl f105)), (qf102, .inl (cf102, 2048, .inl f102)), (qf100, .inl (cf100, 48000, .inl f100)), (qf104, .inl (cf104, 8, .inl f104))]) [0, 1, 2, 3, 4] rfl
  replace hD := hD.sub (ws' := [(h0, .inr (13, zs)), (qf105, .inl (cf105, 8, .inl f105)), (qf102, .inl (cf102, 2048, .inl f102)), (qf100, .inl (cf100, 48000, .inl f100)), (qf104, .inl (cf104, 8, .inl f104))]) [0, 1, 2, 3, 4] (by decide) rfl
  replace hK := hK.sub (tys' := [(cf105, .int), (cf102, .int), (cf100, .int), (cf104, .int)]) [0, 1, 2, 3] rfl
  obtain ⟨n_5, hn_5⟩ : ∃ z : Nat, z = nf := ⟨_, rfl⟩
  obtain ⟨l2_5, el2_5⟩ : ∃ z : Int32, z = a2 := ⟨_, rfl⟩
  obtain ⟨l3_5, el3_5⟩ : ∃ z : Int32, z = a1 := ⟨_, rfl⟩
  obtain ⟨l4_5, el4_5⟩ : ∃ z : Int32, z = 0 := ⟨_, rfl⟩
  replace hsp : lp_vm_isUnder_5 nf n_5 a1 a2 v98 f105 f102 f100 f104 nS477 fS477 l2_5 l3_5 l4_5 = some r0 := by rw [hn_5, el2_5, el3_5, el4_5]; exact hsp
  replace hl : lv_has ls 5 [(4, .int l4_5), (3, .int l3_5), (0, .ref h0), (2, .int l2_5)] := by rw [el2_5, el3_5, el4_5]; exact hl
  obtain ⟨z5, ez5⟩ : ∃ z : List Value, z = zs := ⟨_, rfl⟩
  have hfh_5_98 : z5[98]? = some (.int v98) := by rw [ez5]; exact hf98
  have hfh_5_100 : z5[100]? = some (.ref qf100) := by rw [ez5]; exact hf100
  have hfh_5_102 : z5[102]? = some (.ref qf102) := by rw [ez5]; exact hf102
  have hfh_5_104 : z5[104]? = some (.ref qf104) := by rw [ez5]; exact hf104
  have hfh_5_105 : z5[105]? = some (.ref qf105) := by rw [ez5]; exact hf105
  have hlh_5 : z5.length = 155 := by rw [ez5]; exact hlen
  have hrh_5 : ∀ j : Nat, z5[j]? = zs[j]? := by rw [ez5]; exact hrs0
  replace hP : va_P (dC, dI) vwCl [(h0, .inr (13, z5)), (qf105, .inl (cf105, 8, .inl f105)), (qf102, .inl (cf102, 2048, .inl f102)), (qf100, .inl (cf100, 48000, .inl f100)), (qf104, .inl (cf104, 8, .inl f104))] H := by rw [ez5]; exact hP
  replace hD : va_D A [(h0, .inr (13, z5)), (qf105, .inl (cf105, 8, .inl f105)), (qf102, .inl (cf102, 2048, .inl f102)), (qf100, .inl (cf100, 48000, .inl f100)), (qf104, .inl (cf104, 8, .inl f104))] := by rw [ez5]; exact hD
  clear hn_5 ez5 el2_5 el3_5 el4_5
  try clear hlo
  try clear hH
  revert hsp
  revert hP
  revert hD
  revert hS
  revert hl
  revert hrh_5
  revert hlh_5
  revert hfh_5_105
  revert hfh_5_104
  revert hfh_5_102
  revert hfh_5_100
  revert hfh_5_98
  revert l4_5
  revert l3_5
  revert l2_5
  revert z5
  revert ls
  revert locs
  revert H
  induction n_5 with
  | zero => intro H locs ls z5 l2_5 l3_5 l4_5 hfh_5_98 hfh_5_100 hfh_5_102 hfh_5_104 hfh_5_105 hlh_5 hrh_5 hl hS hD hP hsp; unfold lp_vm_isUnder_5 at hsp; cases hsp
  | succ n_5 ih_5 =>
    intro H locs ls z5 l2_5 l3_5 l4_5 hfh_5_98 hfh_5_100 hfh_5_102 hfh_5_104 hfh_5_105 hlh_5 hrh_5 hl hS hD hP hsp
    unfold lp_vm_isUnder_5 at hsp
    try dsimp only at hsp
    refine lv_iload hx hb dX13_isUnder_5 (lv_at hl 0 rfl) ?_
    refine lv_bipush (v := 16) hx hb dX13_isUnder_7 (by decide) ?_
    refine lv_icmp_gt (tgt := 36) hx hb dX13_isUnder_9 (by decide) (fun c_1 => ?_) (fun c_1 => ?_)
    · rw [if_pos c_1] at hsp
      refine lv_iconst (v := 0) hx hb dX13_isUnder_36 (by decide) ?_
      have hr0 := Option.some.inj hsp
      clear hsp
      subst hr0
      have hP9 := hP.sub (ws' := [(h0, .inr (13, z5)), (qf105, .inl (cf105, 8, .inl f105)), (qf102, .inl (cf102, 2048, .inl f102)), (qf100, .inl (cf100, 48000, .inl f100)), (qf104, .inl (cf104, 8, .inl f104))]) [0, 1, 2, 3, 4] rfl
      have hD9 := hD.sub (ws' := [(h0, .inr (13, z5)), (qf105, .inl (cf105, 8, .inl f105)), (qf102, .inl (cf102, 2048, .inl f102)), (qf100, .inl (cf100, 48000, .inl f100)), (qf104, .inl (cf104, 8, .inl f104))]) [0, 1, 2, 3, 4] (by decide) rfl
      have hK9 := hK.sub (tys' := [(cf105, .int), (cf102, .int), (cf100, .int), (cf104, .int)]) [0, 1, 2, 3] rfl
      exact W.zret hx hb hr (by decide) (fun t ht hW => ⟨⟨(0), (z5), rfl, ⟨⟨rfl, Or.inl rfl⟩, hlh_5, hrh_5⟩, by rw [ht]; exact hP9, va_K.moved hW.alike hK9, hD9⟩, hS.F ht⟩) hS.2.2 dX13_isUnder_37
    · rw [if_neg c_1] at hsp
      refine lv_iload_n hx hb dX13_isUnder_12 rfl (lv_at hl 1 rfl) ?_
      refine lv_iconst (v := (-1)) hx hb dX13_isUnder_13 (by decide) ?_
      refine lv_icmp_eq (tgt := 36) hx hb dX13_isUnder_14 (by decide) (fun c_2 => ?_) (fun c_2 => ?_)
      · rw [if_pos c_2] at hsp
        refine lv_iconst (v := 0) hx hb dX13_isUnder_36 (by decide) ?_
        have hr0 := Option.some.inj hsp
        clear hsp
        subst hr0
        have hP9 := hP.sub (ws' := [(h0, .inr (13, z5)), (qf105, .inl (cf105, 8, .inl f105)), (qf102, .inl (cf102, 2048, .inl f102)), (qf100, .inl (cf100, 48000, .inl f100)), (qf104, .inl (cf104, 8, .inl f104))]) [0, 1, 2, 3, 4] rfl
        have hD9 := hD.sub (ws' := [(h0, .inr (13, z5)), (qf105, .inl (cf105, 8, .inl f105)), (qf102, .inl (cf102, 2048, .inl f102)), (qf100, .inl (cf100, 48000, .inl f100)), (qf104, .inl (cf104, 8, .inl f104))]) [0, 1, 2, 3, 4] (by decide) rfl
        have hK9 := hK.sub (tys' := [(cf105, .int), (cf102, .int), (cf100, .int), (cf104, .int)]) [0, 1, 2, 3] rfl
        exact W.zret hx hb hr (by decide) (fun t ht hW => ⟨⟨(0), (z5), rfl, ⟨⟨rfl, Or.inl rfl⟩, hlh_5, hrh_5⟩, by rw [ht]; exact hP9, va_K.moved hW.alike hK9, hD9⟩, hS.F ht⟩) hS.2.2 dX13_isUnder_37
      · rw [if_neg c_2] at hsp
        refine lv_iload_n hx hb dX13_isUnder_17 rfl (lv_at hl 1 rfl) ?_
        refine lv_iload_n hx hb dX13_isUnder_18 rfl (lv_at hl 3 rfl) ?_
        refine lv_icmp_ne (tgt := 24) hx hb dX13_isUnder_19 (by decide) (fun c_3 => ?_) (fun c_3 => ?_)
        · rw [if_neg c_3] at hsp
          refine lv_aload_n hx hb dX13_isUnder_24 rfl (lv_at hl 2 rfl) ?_
          refine lv_iload_n hx hb dX13_isUnder_25 rfl (lv_at hl 1 rfl) ?_
          obtain ⟨u1_0, hu_1, hsp⟩ := ox_bind hsp
          try dsimp only at hsp
          have hPc := hP.sub (ws' := [(h0, .inr (13, z5)), (qf105, .inl (cf105, 8, .inl f105)), (qf102, .inl (cf102, 2048, .inl f102)), (qf100, .inl (cf100, 48000, .inl f100)), (qf104, .inl (cf104, 8, .inl f104))]) [0, 1, 2, 3, 4] rfl
          have hDc := hD.sub (ws' := [(h0, .inr (13, z5)), (qf105, .inl (cf105, 8, .inl f105)), (qf102, .inl (cf102, 2048, .inl f102)), (qf100, .inl (cf100, 48000, .inl f100)), (qf104, .inl (cf104, 8, .inl f104))]) [0, 1, 2, 3, 4] (by decide) rfl
          have hKc := hK.sub (tys' := [(cf105, .int), (cf102, .int), (cf100, .int), (cf104, .int)]) [0, 1, 2, 3] rfl
          have hFc := va_free (wc := [(h0, .inr (13, z5)), (qf105, .inl (cf105, 8, .inl f105)), (qf102, .inl (cf102, 2048, .inl f102)), (qf100, .inl (cf100, 48000, .inl f100)), (qf104, .inl (cf104, 8, .inl f104))]) hD hS hA [0, 1, 2, 3, 4] rfl
          refine va_calli (va_runV (As := [.int l3_5]) (rest := []) ⟨hx, hb, hml, hown, hts⟩ (vm_superOf l dC dI H.size h0 z5 l3_5 v98 qf100 qf102 qf104 qf105 cf105 f105 cf102 f102 cf100 f100 cf104 f104 nS477 fS477 hS477 qS477 tS477 nf u1_0 hlh_5 hfh_5_98 hfh_5_100 hfh_5_102 hfh_5_104 hfh_5_105 hu_1) (cwV 1 hts gv_h9_98 rfl rfl rfl (by decide +kernel) ⟨Nat.le_of_ble_eq_true rfl, Nat.le_of_ble_eq_true rfl⟩) ⟨fun a U g mk q => by obtain ⟨q0, q1, qP, qK, qD, qhZWS477, qhZRS477⟩ := q; exact ⟨q0, q1, qP, va_K.moved (u := U) (U := U.calling g mk a) (Vm.Alike.refl U.vm) qK, qD, pz_W.moved (u := U) (U := U.calling g mk a) (Vm.Alike.refl U.vm) qhZWS477, vk_R.same rfl qhZRS477⟩, va_recv hKc hPc (ci := 13) (q0 := 0) rfl rfl, fun U hU hW => ⟨rfl, by rw [hU], by rw [hU]; exact hPc, va_K.moved hW.alike hKc, hDc.weaken (fun _ _ _ _ => trivial), by rw [hU]; exact ((pz_W.moved hW.alike hZWS477).kept hS.2.1).narrow hFc, vk_R.warm hW hZRS477⟩⟩ rfl rfl hl.1 rfl (lv_room (Nat.le_of_ble_eq_true rfl)) dX13_isUnder_26 ⟨Nat.le_of_ble_eq_true rfl, Nat.le_of_ble_eq_true rfl⟩) hS (fun q _ h => hFc q h) hFc ?_
          clear hS
          intro r_4 u t H1 locs ht hvm hw hB hz1 hk1 hS
          obtain ⟨z_1, rfl⟩ : ∃ z, z = u := ⟨_, rfl⟩
          obtain ⟨hP1, hK1, hD1⟩ := hB
          rw [ht] at hP1
          have hK1 := va_K.moved hvm.symm hK1
          try dsimp only at hw
          have hPD := va_join (wr := []) (w1 := [(h0, .inr (13, z_1)), (qf105, .inl (cf105, 8, .inl f105)), (qf102, .inl (cf102, 2048, .inl f102)), (qf100, .inl (cf100, 48000, .inl f100)), (qf104, .inl (cf104, 8, .inl f104))]) hP hD [0, 1, 2, 3, 4] [] rfl rfl (by decide) (by decide) hk1 hFc hP1 hD1
          clear hP hD
          obtain ⟨hP, hD⟩ := hPD
          replace hK := (hK.sub (tys' := []) [] rfl).app hK1
          clear hPc hDc hKc hFc hP1 hK1 hD1 hz1 hk1 ht hvm
          generalize H1 = H at hP hS ⊢
          replace hP : va_P (dC, dI) vwCl [(h0, .inr (13, z_1)), (qf105, .inl (cf105, 8, .inl f105)), (qf102, .inl (cf102, 2048, .inl f102)), (qf100, .inl (cf100, 48000, .inl f100)), (qf104, .inl (cf104, 8, .inl f104))] H := hP
          replace hD : va_D A [(h0, .inr (13, z_1)), (qf105, .inl (cf105, 8, .inl f105)), (qf102, .inl (cf102, 2048, .inl f102)), (qf100, .inl (cf100, 48000, .inl f100)), (qf104, .inl (cf104, 8, .inl f104))] := hD
          replace hK : va_K (dC, dI) vwCl [(cf105, .int), (cf102, .int), (cf100, .int), (cf104, .int)] s := hK
          obtain ⟨hwa_1, hln_1, hre_1⟩ := hw
          have hfk_1_98 : z_1[98]? = some (.int v98) := (hre_1 98 ).trans (hfh_5_98)
          have hfk_1_100 : z_1[100]? = some (.ref qf100) := (hre_1 100 ).trans (hfh_5_100)
          have hfk_1_102 : z_1[102]? = some (.ref qf102) := (hre_1 102 ).trans (hfh_5_102)
          have hfk_1_104 : z_1[104]? = some (.ref qf104) := (hre_1 104 ).trans (hfh_5_104)
          have hfk_1_105 : z_1[105]? = some (.ref qf105) := (hre_1 105 ).trans (hfh_5_105)
          have hrq_1 : ∀ j : Nat, z_1[j]? = zs[j]? := fun j  => (hre_1 j ).trans (hrh_5 j )
          obtain rfl := hwa_1
          refine lv_istore_n (lv' := [(3, .int u1_0), (4, .int l4_5), (0, .ref h0), (2, .int l2_5)]) hx hb dX13_isUnder_29 rfl hl (by decide) rfl (fun ls hl => ?_)
          refine lv_iinc (v := (l4_5 + 1)) (lv' := [(4, .int (l4_5 + 1)), (3, .int u1_0), (0, .ref h0), (2, .int l2_5)]) hx hb dX13_isUnder_30 hl (k := 1) rfl rfl (by decide) rfl (fun ls hl => ?_)
          refine lv_goto (tgt := 5) hx hb dX13_isUnder_33 (by decide) ?_
          exact ih_5 H locs ls z_1 l2_5 u1_0 (l4_5 + 1) (hfk_1_98) (hfk_1_100) (hfk_1_102) (hfk_1_104) (hfk_1_105) hln_1 hrq_1 (lv_sub hl [0, 1, 2, 3] rfl) hS (hD.sub (ws' := [(h0, .inr (13, z_1)), (qf105, .inl (cf105, 8, .inl f105)), (qf102, .inl (cf102, 2048, .inl f102)), (qf100, .inl (cf100, 48000, .inl f100)), (qf104, .inl (cf104, 8, .inl f104))]) [0, 1, 2, 3, 4] (by decide) rfl) (hP.sub (ws' := [(h0, .inr (13, z_1)), (qf105, .inl (cf105, 8, .inl f105)), (qf102, .inl (cf102, 2048, .inl f102)), (qf100, .inl (cf100, 48000, .inl f100)), (qf104, .inl (cf104, 8, .inl f104))]) [0, 1, 2, 3, 4] rfl) hsp
        · rw [if_pos c_3] at hsp
          refine lv_iconst (v := 1) hx hb dX13_isUnder_22 (by decide) ?_
          have hr0 := Option.some.inj hsp
          clear hsp
          subst hr0
          have hP9 := hP.sub (ws' := [(h0, .inr (13, z5)), (qf105, .inl (cf105, 8, .inl f105)), (qf102, .inl (cf102, 2048, .inl f102)), (qf100, .inl (cf100, 48000, .inl f100)), (qf104, .inl (cf104, 8, .inl f104))]) [0, 1, 2, 3, 4] rfl
          have hD9 := hD.sub (ws' := [(h0, .inr (13, z5)), (qf105, .inl (cf105, 8, .inl f105)), (qf102, .inl (cf102, 2048, .inl f102)), (qf100, .inl (cf100, 48000, .inl f100)), (qf104, .inl (cf104, 8, .inl f104))]) [0, 1, 2, 3, 4] (by decide) rfl
          have hK9 := hK.sub (tys' := [(cf105, .int), (cf102, .int), (cf100, .int), (cf104, .int)]) [0, 1, 2, 3] rfl
          exact W.zret hx hb hr (by decide) (fun t ht hW => ⟨⟨(1), (z5), rfl, ⟨⟨rfl, Or.inr rfl⟩, hlh_5, hrh_5⟩, by rw [ht]; exact hP9, va_K.moved hW.alike hK9, hD9⟩, hS.F ht⟩) hS.2.2 dX13_isUnder_23
def lp_vm_nameNumber_51 (nf n : Nat) (a1 : Int32) (a2 : Int32) (v98 : Int32) (v117 : Int32) (f104 : Nat → Int32) (f102 : Nat → Int32) (f100 : Nat → Int32) (f118 : Nat → Int32) (f119 : Nat → Int32) (nS477 : Nat) (fS477 : Nat → Int32) (kk_21 : Int32 → Int32 → Int32 → (Nat → Int32) → (Nat → Int32) → Int32 → Option (Int32 × (Nat → Int32) × (Nat → Int32) × Int32)) (l1_51 : Int32) (l2_51 : Int32) (l4_51 : Int32) (l5_51 : Int32) (l6_51 : Int32) (g118_51 : Nat → Int32) (g119_51 : Nat → Int32) (x117_51 : Int32) : Option (Int32 × (Nat → Int32) × (Nat → Int32) × Int32) := match n with
  | 0 => none
  | n + 1 => (if l2_51 ≤ l6_51 then (if l5_51 = 0 then (kk_21 l1_51 l2_51 (l4_51 + 1) g118_51 g119_51 x117_51) else (some ((16 + l4_51), g118_51, g119_51, x117_51))) else (if l5_51 = 0 then (if l5_51 = 0 then (kk_21 l1_51 l2_51 (l4_51 + 1) g118_51 g119_51 x117_51) else (some ((16 + l4_51), g118_51, g119_51, x117_51))) else (if l4_51 < 0 then none else if 2100 ≤ (l4_51 : Int32).toNatClampNeg then none else (if ((g118_51 (l4_51 : Int32).toNatClampNeg) + l6_51) < 0 then none else if 48000 ≤ (((g118_51 (l4_51 : Int32).toNatClampNeg) + l6_51) : Int32).toNatClampNeg then none else (if (l1_51 + l6_51) < 0 then none else if 48000 ≤ ((l1_51 + l6_51) : Int32).toNatClampNeg then none else (if (f100 (((g118_51 (l4_51 : Int32).toNatClampNeg) + l6_51) : Int32).toNatClampNeg) = (f100 ((l1_51 + l6_51) : Int32).toNatClampNeg) then (lp_vm_nameNumber_51 nf n a1 a2 v98 v117 f104 f102 f100 f118 f119 nS477 fS477 kk_21 l1_51 l2_51 l4_51 1 (l6_51 + 1) g118_51 g119_51 x117_51) else (lp_vm_nameNumber_51 nf n a1 a2 v98 v117 f104 f102 f100 f118 f119 nS477 fS477 kk_21 l1_51 l2_51 l4_51 0 (l6_51 + 1) g118_51 g119_51 x117_51)))))))
def jn_vm_nameNumber_46 (nf : Nat) (a1 : Int32) (a2 : Int32) (v98 : Int32) (v117 : Int32) (f104 : Nat → Int32) (f102 : Nat → Int32) (f100 : Nat → Int32) (f118 : Nat → Int32) (f119 : Nat → Int32) (nS477 : Nat) (fS477 : Nat → Int32) (kk_21 : Int32 → Int32 → Int32 → (Nat → Int32) → (Nat → Int32) → Int32 → Option (Int32 × (Nat → Int32) × (Nat → Int32) × Int32)) (l1_46 : Int32) (l2_46 : Int32) (l4_46 : Int32) (s0_46 : Int32) (g118_46 : Nat → Int32) (g119_46 : Nat → Int32) (x117_46 : Int32) : Option (Int32 × (Nat → Int32) × (Nat → Int32) × Int32) := (lp_vm_nameNumber_51 nf nf a1 a2 v98 v117 f104 f102 f100 f118 f119 nS477 fS477 kk_21 l1_46 l2_46 l4_46 s0_46 0 g118_46 g119_46 x117_46)
def lp_vm_nameNumber_21 (nf n : Nat) (a1 : Int32) (a2 : Int32) (v98 : Int32) (v117 : Int32) (f104 : Nat → Int32) (f102 : Nat → Int32) (f100 : Nat → Int32) (f118 : Nat → Int32) (f119 : Nat → Int32) (nS477 : Nat) (fS477 : Nat → Int32)  (l1_21 : Int32) (l2_21 : Int32) (l4_21 : Int32) (g118_21 : Nat → Int32) (g119_21 : Nat → Int32) (x117_21 : Int32) : Option (Int32 × (Nat → Int32) × (Nat → Int32) × Int32) := match n with
  | 0 => none
  | n + 1 => (if x117_21 ≤ l4_21 then (if x117_21 < 0 then none else if 2100 ≤ (x117_21 : Int32).toNatClampNeg then none else (if x117_21 < 0 then none else if 2100 ≤ (x117_21 : Int32).toNatClampNeg then none else (some (((16 + (x117_21 + 1)) - 1), (upd g118_21 (x117_21 : Int32).toNatClampNeg l1_21), (upd g119_21 (x117_21 : Int32).toNatClampNeg l2_21), (x117_21 + 1))))) else (if l4_21 < 0 then none else if 2100 ≤ (l4_21 : Int32).toNatClampNeg then none else (if (g119_21 (l4_21 : Int32).toNatClampNeg) = l2_21 then (jn_vm_nameNumber_46 nf a1 a2 v98 v117 f104 f102 f100 f118 f119 nS477 fS477 (lp_vm_nameNumber_21 nf n a1 a2 v98 v117 f104 f102 f100 f118 f119 nS477 fS477) l1_21 l2_21 l4_21 1 g118_21 g119_21 x117_21) else (jn_vm_nameNumber_46 nf a1 a2 v98 v117 f104 f102 f100 f118 f119 nS477 fS477 (lp_vm_nameNumber_21 nf n a1 a2 v98 v117 f104 f102 f100 f118 f119 nS477 fS477) l1_21 l2_21 l4_21 0 g118_21 g119_21 x117_21))))
def sp_vm_nameNumber (nf : Nat) (a1 : Int32) (a2 : Int32) (v98 : Int32) (v117 : Int32) (f104 : Nat → Int32) (f102 : Nat → Int32) (f100 : Nat → Int32) (f118 : Nat → Int32) (f119 : Nat → Int32) (nS477 : Nat) (fS477 : Nat → Int32) : Option (Int32 × (Nat → Int32) × (Nat → Int32) × Int32) := ((sp_vm_classNamedB nf a1 a2 v98 f104 f102 f100 nS477 fS477).bind (fun p1 => (if p1 = (-1) then (lp_vm_nameNumber_21 nf nf a1 a2 v98 v117 f104 f102 f100 f118 f119 nS477 fS477  a1 a2 0 f118 f119 v117) else (some (p1, f118, f119, v117)))))
set_option maxHeartbeats 4000000 in
set_option maxRecDepth 100000 in
/-- ClassMillModel.nameNumber -/
theorem vm_nameNumber (l : Launch) (dC : Nat → ClassId) (dI : Nat → Nat → Nat) (sz : Nat) (h0 : Nat) (zs : (List Value)) (a1 : Int32) (a2 : Int32) (v98 : Int32) (qf100 : Nat) (qf102 : Nat) (qf104 : Nat) (v117 : Int32) (qf118 : Nat) (qf119 : Nat) (cf104 : ClassId) (f104 : (Nat → Int32)) (cf102 : ClassId) (f102 : (Nat → Int32)) (cf100 : ClassId) (f100 : (Nat → Int32)) (cf118 : ClassId) (f118 : (Nat → Int32)) (cf119 : ClassId) (f119 : (Nat → Int32)) (nS477 : Nat) (fS477 : (Nat → Int32)) (hS477 : Nat) (qS477 : Nat) (tS477 : String) (nf : Nat) (r0 : Int32) (o118 : (Nat → Int32)) (o119 : (Nat → Int32)) (w117 : Int32) (hlen : zs.length = 155) (hf98 : zs[98]? = some (.int v98)) (hf100 : zs[100]? = some (.ref qf100)) (hf102 : zs[102]? = some (.ref qf102)) (hf104 : zs[104]? = some (.ref qf104)) (hf117 : zs[117]? = some (.int v117)) (hf118 : zs[118]? = some (.ref qf118)) (hf119 : zs[119]? = some (.ref qf119)) (hsp : sp_vm_nameNumber nf a1 a2 v98 v117 f104 f102 f100 f118 f119 nS477 fS477 = some (r0, o118, o119, w117)) : Met l yX13_nameNumber (.code yX13_nameNumber cX13_nameNumber 7 (some .int) :: VS_h9) ({ frames := 6, cells := 0, slots := 0, locals := 137 }) (va_Pc [.ref h0, .int a1, .int a2] (fun U => U.heap.size = sz ∧ va_P (dC, dI) vwCl [(h0, .inr (13, zs)), (qf104, .inl (cf104, 8, .inl f104)), (qf102, .inl (cf102, 2048, .inl f102)), (qf100, .inl (cf100, 48000, .inl f100)), (qf118, .inl (cf118, 2100, .inl f118)), (qf119, .inl (cf119, 2100, .inl f119))] U.heap ∧ va_K (dC, dI) vwCl [(cf104, .int), (cf102, .int), (cf100, .int), (cf118, .int), (cf119, .int)] U ∧ va_D (fun _ => True) [(h0, .inr (13, zs)), (qf104, .inl (cf104, 8, .inl f104)), (qf102, .inl (cf102, 2048, .inl f102)), (qf100, .inl (cf100, 48000, .inl f100)), (qf118, .inl (cf118, 2100, .inl f118)), (qf119, .inl (cf119, 2100, .inl f119))] ∧ pz_W nS477 fS477 hS477 qS477 (va_A [(h0, .inr (13, zs)), (qf104, .inl (cf104, 8, .inl f104)), (qf102, .inl (cf102, 2048, .inl f102)), (qf100, .inl (cf100, 48000, .inl f100)), (qf118, .inl (cf118, 2100, .inl f118)), (qf119, .inl (cf119, 2100, .inl f119))] sz) U U.heap ∧ vk_R RX13 477 tS477 hS477 U)) (va_Qi (fun (r : Int32) (u : (List Value)) => match u with | (zo1) => r0 = r ∧ zo1.length = 155 ∧ (∀ j : Nat, j ≠ 117 → zo1[j]? = zs[j]?) ∧ zo1[117]? = some (.int w117)) (fun (u : (List Value)) (t : State) => match u with | (zo1) => va_P (dC, dI) vwCl [(h0, .inr (13, zo1)), (qf104, .inl (cf104, 8, .inl f104)), (qf102, .inl (cf102, 2048, .inl f102)), (qf100, .inl (cf100, 48000, .inl f100)), (qf118, .inl (cf118, 2100, .inl o118)), (qf119, .inl (cf119, 2100, .inl o119))] t.heap ∧ va_K (dC, dI) vwCl [(cf104, .int), (cf102, .int), (cf100, .int), (cf118, .int), (cf119, .int)] t ∧ va_D (va_A [(h0, .inr (13, zs)), (qf104, .inl (cf104, 8, .inl f104)), (qf102, .inl (cf102, 2048, .inl f102)), (qf100, .inl (cf100, 48000, .inl f100)), (qf118, .inl (cf118, 2100, .inl f118)), (qf119, .inl (cf119, 2100, .inl f119))] sz) [(h0, .inr (13, zo1)), (qf104, .inl (cf104, 8, .inl f104)), (qf102, .inl (cf102, 2048, .inl f102)), (qf100, .inl (cf100, 48000, .inl f100)), (qf118, .inl (cf118, 2100, .inl o118)), (qf119, .inl (cf119, 2100, .inl o119))]) (va_A [(h0, .inr (13, zs)), (qf104, .inl (cf104, 8, .inl f104)), (qf102, .inl (cf102, 2048, .inl f102)), (qf100, .inl (cf100, 48000, .inl f100)), (qf118, .inl (cf118, 2100, .inl f118)), (qf119, .inl (cf119, 2100, .inl f119))] sz)) 0 0 (va_A [(h0, .inr (13, zs)), (qf104, .inl (cf104, 8, .inl f104)), (qf102, .inl (cf102, 2048, .inl f102)), (qf100, .inl (cf100, 48000, .inl f100)), (qf118, .inl (cf118, 2100, .inl f118)), (qf119, .inl (cf119, 2100, .inl f119))] sz) := by
  refine Met.ofW (cc := cX13_nameNumber) (maxL := 7) (ret := (some .int)) (by decide) rfl ?_
  intro p e s m args below meth c s₁ B hml hv
  obtain ⟨rfl, hsz, hP, hK, hD0, hZWS477, hZRS477⟩ := hv
  have hx := B.exec
  have hb := B.bytes
  have hr := B.returns
  have hts := atoms_spec (ws := (.code yX13_nameNumber cX13_nameNumber 7 (some .int) :: VS_h9)) B.pre
  replace hts := fun w (h : w ∈ VS_h9) => hts w (List.mem_cons_of_mem _ h)
  have hown : s.vm.findClass RX13 = some m.cls := findClass_of_methodNamed B.named
  have hlocks := B.notSynchronized
  subst hsz
  have hD := hD0.self (sz := s.heap.size)
  generalize hAe : va_A [(h0, .inr (13, zs)), (qf104, .inl (cf104, 8, .inl f104)), (qf102, .inl (cf102, 2048, .inl f102)), (qf100, .inl (cf100, 48000, .inl f100)), (qf118, .inl (cf118, 2100, .inl f118)), (qf119, .inl (cf119, 2100, .inl f119))] s.heap.size = A at hD hZWS477 ⊢
  have hA : ∀ q : Nat, s.heap.size ≤ q → A q := fun q h => by rw [← hAe]; exact Or.inr h
  have hP : va_P (dC, dI) vwCl [(h0, .inr (13, zs)), (qf104, .inl (cf104, 8, .inl f104)), (qf102, .inl (cf102, 2048, .inl f102)), (qf100, .inl (cf100, 48000, .inl f100)), (qf118, .inl (cf118, 2100, .inl f118)), (qf119, .inl (cf119, 2100, .inl f119))] s.heap := hP
  have hl := lv_entry ([.ref h0, .int a1, .int a2]) (n := 7) (Nat.le_of_ble_eq_true rfl)
  rw [lg_entry_eq]
  generalize (lg_sl ([.ref h0, .int a1, .int a2]) ++ List.replicate (7 - (lg_sl ([.ref h0, .int a1, .int a2])).length) Slot.unset).toArray = ls at hl ⊢
  have hl : lv_has ls 7 [(0, .ref h0), (1, .int a1), (2, .int a2)] := hl
  obtain ⟨H, hH⟩ : ∃ H : Heap, s.heap = H := ⟨_, rfl⟩
  rw [hH] at hP ⊢
  have hS : va_S A s.heap H [] := by rw [← hH]; exact va_S.rf
  obtain ⟨locs, hlo⟩ : ∃ locs : List Loc, locs = [] := ⟨_, rfl⟩
  rw [← hlo] at hS ⊢
  have hrs0 : ∀ j : Nat, j ≠ 117 → zs[j]? = zs[j]? := fun _ _  => rfl
  unfold sp_vm_nameNumber at hsp
  refine lv_aload_n hx hb dX13_nameNumber_0 rfl (lv_at hl 0 rfl) ?_
  refine lv_aload_n hx hb dX13_nameNumber_1 rfl (lv_at hl 0 rfl) ?_
  refine va_get (D := (dC, dI)) (ci := 13) (v := .ref qf100) (C := RX13) (T := TX13) (N := 155) hx hb hts uV_h9_X13 hown hK hP 0 rfl rfl 100 (by decide) (hts (.fieldLink RX13 209 "ClassMillModel" "bytes" "[I") mw_h9_266) (fun _ h9 => h9) hf100 dX13_nameNumber_2 ?_
  refine lv_iload_n hx hb dX13_nameNumber_5 rfl (lv_at hl 1 rfl) ?_
  refine lv_iload_n hx hb dX13_nameNumber_6 rfl (lv_at hl 2 rfl) ?_
  obtain ⟨u1_0, hu_1, hsp⟩ := ox_bind hsp
  try dsimp only at hsp
  have hPc := hP.sub (ws' := [(h0, .inr (13, zs)), (qf104, .inl (cf104, 8, .inl f104)), (qf102, .inl (cf102, 2048, .inl f102)), (qf100, .inl (cf100, 48000, .inl f100))]) [0, 1, 2, 3] rfl
  have hDc := hD.sub (ws' := [(h0, .inr (13, zs)), (qf104, .inl (cf104, 8, .inl f104)), (qf102, .inl (cf102, 2048, .inl f102)), (qf100, .inl (cf100, 48000, .inl f100))]) [0, 1, 2, 3] (by decide) rfl
  have hKc := hK.sub (tys' := [(cf104, .int), (cf102, .int), (cf100, .int)]) [0, 1, 2] rfl
  have hFc := va_free (wc := [(h0, .inr (13, zs)), (qf104, .inl (cf104, 8, .inl f104)), (qf102, .inl (cf102, 2048, .inl f102)), (qf100, .inl (cf100, 48000, .inl f100))]) hD hS hA [0, 1, 2, 3] rfl
  refine va_calli (va_runV (As := [.ref qf100, .int a1, .int a2]) (rest := []) ⟨hx, hb, hml, hown, hts⟩ (vm_classNamedB l dC dI H.size h0 zs qf100 a1 a2 v98 qf102 qf104 cf104 f104 cf102 f102 cf100 f100 nS477 fS477 hS477 qS477 tS477 nf u1_0 hlen hf98 hf100 hf102 hf104 hu_1) (cwV 3 hts gv_h9_96 rfl rfl rfl (by decide +kernel) ⟨Nat.le_of_ble_eq_true rfl, Nat.le_of_ble_eq_true rfl⟩) ⟨fun a U g mk q => by obtain ⟨q0, q1, qP, qK, qD, qhZWS477, qhZRS477⟩ := q; exact ⟨q0, q1, qP, va_K.moved (u := U) (U := U.calling g mk a) (Vm.Alike.refl U.vm) qK, qD, pz_W.moved (u := U) (U := U.calling g mk a) (Vm.Alike.refl U.vm) qhZWS477, vk_R.same rfl qhZRS477⟩, va_recv hKc hPc (ci := 13) (q0 := 0) rfl rfl, fun U hU hW => ⟨rfl, by rw [hU], by rw [hU]; exact hPc, va_K.moved hW.alike hKc, hDc.weaken (fun _ _ _ _ => trivial), by rw [hU]; exact ((pz_W.moved hW.alike hZWS477).kept hS.2.1).narrow hFc, vk_R.warm hW hZRS477⟩⟩ rfl rfl hl.1 rfl (lv_room (Nat.le_of_ble_eq_true rfl)) dX13_nameNumber_7 ⟨Nat.le_of_ble_eq_true rfl, Nat.le_of_ble_eq_true rfl⟩) hS (fun q _ h => hFc q h) hFc ?_
  clear hS
  intro r_1 u t H1 locs ht hvm hw hB hz1 hk1 hS
  obtain ⟨z_1, rfl⟩ : ∃ z, z = u := ⟨_, rfl⟩
  obtain ⟨hP1, hK1, hD1⟩ := hB
  rw [ht] at hP1
  have hK1 := va_K.moved hvm.symm hK1
  try dsimp only at hw
  have hPD := va_join (wr := [(qf118, .inl (cf118, 2100, .inl f118)), (qf119, .inl (cf119, 2100, .inl f119))]) (w1 := [(h0, .inr (13, z_1)), (qf104, .inl (cf104, 8, .inl f104)), (qf102, .inl (cf102, 2048, .inl f102)), (qf100, .inl (cf100, 48000, .inl f100))]) hP hD [0, 1, 2, 3] [4, 5] rfl rfl (by decide) (by decide) hk1 hFc hP1 hD1
  clear hP hD
  obtain ⟨hP, hD⟩ := hPD
  replace hK := (hK.sub (tys' := [(cf118, .int), (cf119, .int)]) [3, 4] rfl).app hK1
  clear hPc hDc hKc hFc hP1 hK1 hD1 hz1 hk1 ht hvm
  generalize H1 = H at hP hS ⊢
  replace hP : va_P (dC, dI) vwCl [(qf118, .inl (cf118, 2100, .inl f118)), (qf119, .inl (cf119, 2100, .inl f119)), (h0, .inr (13, z_1)), (qf104, .inl (cf104, 8, .inl f104)), (qf102, .inl (cf102, 2048, .inl f102)), (qf100, .inl (cf100, 48000, .inl f100))] H := hP
  replace hD : va_D A [(qf118, .inl (cf118, 2100, .inl f118)), (qf119, .inl (cf119, 2100, .inl f119)), (h0, .inr (13, z_1)), (qf104, .inl (cf104, 8, .inl f104)), (qf102, .inl (cf102, 2048, .inl f102)), (qf100, .inl (cf100, 48000, .inl f100))] := hD
  replace hK : va_K (dC, dI) vwCl [(cf118, .int), (cf119, .int), (cf104, .int), (cf102, .int), (cf100, .int)] s := hK
  obtain ⟨hwa_1, hln_1, hre_1⟩ := hw
  have hfk_1_98 : z_1[98]? = some (.int v98) := (hre_1 98 ).trans (hf98)
  have hfk_1_100 : z_1[100]? = some (.ref qf100) := (hre_1 100 ).trans (hf100)
  have hfk_1_102 : z_1[102]? = some (.ref qf102) := (hre_1 102 ).trans (hf102)
  have hfk_1_104 : z_1[104]? = some (.ref qf104) := (hre_1 104 ).trans (hf104)
  have hfk_1_117 : z_1[117]? = some (.int v117) := (hre_1 117 ).trans (hf117)
  have hfk_1_118 : z_1[118]? = some (.ref qf118) := (hre_1 118 ).trans (hf118)
  have hfk_1_119 : z_1[119]? = some (.ref qf119) := (hre_1 119 ).trans (hf119)
  have hrq_1 : ∀ j : Nat, j ≠ 117 → z_1[j]? = zs[j]? := fun j g117 => (hre_1 j ).trans (hrs0 j g117)
  obtain rfl := hwa_1
  refine lv_istore_n (lv' := [(3, .int u1_0), (0, .ref h0), (1, .int a1), (2, .int a2)]) hx hb dX13_nameNumber_10 rfl hl (by decide) rfl (fun ls hl => ?_)
  refine lv_iload_n hx hb dX13_nameNumber_11 rfl (lv_at hl 0 rfl) ?_
  refine lv_iconst (v := (-1)) hx hb dX13_nameNumber_12 (by decide) ?_
  refine lv_icmp_eq (tgt := 18) hx hb dX13_nameNumber_13 (by decide) (fun c_2 => ?_) (fun c_2 => ?_)
  · rw [if_pos c_2] at hsp
    refine lv_iconst (v := 0) hx hb dX13_nameNumber_18 (by decide) ?_
    refine lv_istore (lv' := [(4, .int 0), (3, .int u1_0), (0, .ref h0), (1, .int a1), (2, .int a2)]) hx hb dX13_nameNumber_19 hl (by decide) rfl (fun ls hl => ?_)
    replace hl : lv_has ls 7 [(4, .int 0), (0, .ref h0), (1, .int a1), (2, .int a2)] := lv_sub hl [0, 2, 3, 4] rfl
    replace hP := hP.sub (ws' := [(h0, .inr (13, z_1)), (qf104, .inl (cf104, 8, .inl f104)), (qf102, .inl (cf102, 2048, .inl f102)), (qf100, .inl (cf100, 48000, .inl f100)), (qf118, .inl (cf118, 2100, .inl f118)), (qf119, .inl (cf119, 2100, .inl f119))]) [2, 3, 4, 5, 0, 1] rfl
    replace hD := hD.sub (ws' := [(h0, .inr (13, z_1)), (qf104, .inl (cf104, 8, .inl f104)), (qf102, .inl (cf102, 2048, .inl f102)), (qf100, .inl (cf100, 48000, .inl f100)), (qf118, .inl (cf118, 2100, .inl f118)), (qf119, .inl (cf119, 2100, .inl f119))]) [2, 3, 4, 5, 0, 1] (by decide) rfl
    replace hK := hK.sub (tys' := [(cf104, .int), (cf102, .int), (cf100, .int), (cf118, .int), (cf119, .int)]) [2, 3, 4, 0, 1] rfl
    obtain ⟨n_21, hn_21⟩ : ∃ z : Nat, z = nf := ⟨_, rfl⟩
    obtain ⟨l1_21, el1_21⟩ : ∃ z : Int32, z = a1 := ⟨_, rfl⟩
    obtain ⟨l2_21, el2_21⟩ : ∃ z : Int32, z = a2 := ⟨_, rfl⟩
    obtain ⟨l4_21, el4_21⟩ : ∃ z : Int32, z = 0 := ⟨_, rfl⟩
    obtain ⟨g118_21, eg118_21⟩ : ∃ z : Nat → Int32, z = f118 := ⟨_, rfl⟩
    obtain ⟨g119_21, eg119_21⟩ : ∃ z : Nat → Int32, z = f119 := ⟨_, rfl⟩
    obtain ⟨x117_21, ex117_21⟩ : ∃ z : Int32, z = v117 := ⟨_, rfl⟩
    replace hsp : lp_vm_nameNumber_21 nf n_21 a1 a2 v98 v117 f104 f102 f100 f118 f119 nS477 fS477 l1_21 l2_21 l4_21 g118_21 g119_21 x117_21 = some (r0, o118, o119, w117) := by rw [hn_21, el1_21, el2_21, el4_21, eg118_21, eg119_21, ex117_21]; exact hsp
    replace hl : lv_has ls 7 [(4, .int l4_21), (0, .ref h0), (1, .int l1_21), (2, .int l2_21)] := by rw [el1_21, el2_21, el4_21]; exact hl
    obtain ⟨z21, ez21⟩ : ∃ z : List Value, z = z_1 := ⟨_, rfl⟩
    have hfh_21_98 : z21[98]? = some (.int v98) := by rw [ez21]; exact hfk_1_98
    have hfh_21_100 : z21[100]? = some (.ref qf100) := by rw [ez21]; exact hfk_1_100
    have hfh_21_102 : z21[102]? = some (.ref qf102) := by rw [ez21]; exact hfk_1_102
    have hfh_21_104 : z21[104]? = some (.ref qf104) := by rw [ez21]; exact hfk_1_104
    have hfh_21_117 : z21[117]? = some (.int x117_21) := by rw [ez21, ex117_21]; exact hfk_1_117
    have hfh_21_118 : z21[118]? = some (.ref qf118) := by rw [ez21]; exact hfk_1_118
    have hfh_21_119 : z21[119]? = some (.ref qf119) := by rw [ez21]; exact hfk_1_119
    have hlh_21 : z21.length = 155 := by rw [ez21]; exact hln_1
    have hrh_21 : ∀ j : Nat, j ≠ 117 → z21[j]? = zs[j]? := by rw [ez21]; exact hrq_1
    replace hP : va_P (dC, dI) vwCl [(h0, .inr (13, z21)), (qf104, .inl (cf104, 8, .inl f104)), (qf102, .inl (cf102, 2048, .inl f102)), (qf100, .inl (cf100, 48000, .inl f100)), (qf118, .inl (cf118, 2100, .inl g118_21)), (qf119, .inl (cf119, 2100, .inl g119_21))] H := by rw [ez21, eg118_21, eg119_21]; exact hP
    replace hD : va_D A [(h0, .inr (13, z21)), (qf104, .inl (cf104, 8, .inl f104)), (qf102, .inl (cf102, 2048, .inl f102)), (qf100, .inl (cf100, 48000, .inl f100)), (qf118, .inl (cf118, 2100, .inl g118_21)), (qf119, .inl (cf119, 2100, .inl g119_21))] := by rw [ez21, eg118_21, eg119_21]; exact hD
    clear hn_21 ez21 el1_21 el2_21 el4_21 eg118_21 eg119_21 ex117_21
    try clear hlo
    try clear hH
    revert hsp
    revert hP
    revert hD
    revert hS
    revert hl
    revert hrh_21
    revert hlh_21
    revert hfh_21_119
    revert hfh_21_118
    revert hfh_21_117
    revert hfh_21_104
    revert hfh_21_102
    revert hfh_21_100
    revert hfh_21_98
    revert x117_21
    revert g119_21
    revert g118_21
    revert l4_21
    revert l2_21
    revert l1_21
    revert z21
    revert ls
    revert locs
    revert H
    induction n_21 with
    | zero => intro H locs ls z21 l1_21 l2_21 l4_21 g118_21 g119_21 x117_21 hfh_21_98 hfh_21_100 hfh_21_102 hfh_21_104 hfh_21_117 hfh_21_118 hfh_21_119 hlh_21 hrh_21 hl hS hD hP hsp; unfold lp_vm_nameNumber_21 at hsp; cases hsp
    | succ n_21 ih_21 =>
      intro H locs ls z21 l1_21 l2_21 l4_21 g118_21 g119_21 x117_21 hfh_21_98 hfh_21_100 hfh_21_102 hfh_21_104 hfh_21_117 hfh_21_118 hfh_21_119 hlh_21 hrh_21 hl hS hD hP hsp
      unfold lp_vm_nameNumber_21 at hsp
      try dsimp only at hsp
      refine jn_use (α := Heap × List Loc × Array Slot × List Value × Int32 × Int32 × Int32 × Int32 × (Nat → Int32) × (Nat → Int32) × Int32) (fun x9 => x9.1) (fun x9 => x9.2.1) (fun x9 => F0 m 46 x9.2.2.1 [.int (x9.2.2.2.2.2.2.2.1)]) (fun x9 => match x9 with | (H, locs, ls, z46, l1_46, l2_46, l4_46, s0_46, g118_46, g119_46, x117_46) => lv_has ls 7 [(0, .ref h0), (1, .int l1_46), (2, .int l2_46), (4, .int l4_46)] ∧ va_S A s.heap H locs ∧ va_D A [(h0, .inr (13, z46)), (qf104, .inl (cf104, 8, .inl f104)), (qf102, .inl (cf102, 2048, .inl f102)), (qf100, .inl (cf100, 48000, .inl f100)), (qf118, .inl (cf118, 2100, .inl g118_46)), (qf119, .inl (cf119, 2100, .inl g119_46))] ∧ va_P (dC, dI) vwCl [(h0, .inr (13, z46)), (qf104, .inl (cf104, 8, .inl f104)), (qf102, .inl (cf102, 2048, .inl f102)), (qf100, .inl (cf100, 48000, .inl f100)), (qf118, .inl (cf118, 2100, .inl g118_46)), (qf119, .inl (cf119, 2100, .inl g119_46))] H ∧ z46[98]? = some (.int v98) ∧ z46[100]? = some (.ref qf100) ∧ z46[102]? = some (.ref qf102) ∧ z46[104]? = some (.ref qf104) ∧ z46[117]? = some (.int x117_46) ∧ z46[118]? = some (.ref qf118) ∧ z46[119]? = some (.ref qf119) ∧ z46.length = 155 ∧ (∀ j : Nat, j ≠ 117 → z46[j]? = zs[j]?) ∧ jn_vm_nameNumber_46 nf a1 a2 v98 v117 f104 f102 f100 f118 f119 nS477 fS477 (lp_vm_nameNumber_21 nf n_21 a1 a2 v98 v117 f104 f102 f100 f118 f119 nS477 fS477) l1_46 l2_46 l4_46 s0_46 g118_46 g119_46 x117_46 = some (r0, o118, o119, w117)) ?_ ?_
      · intro x9 hJ9
        obtain ⟨H, locs, ls, z46, l1_46, l2_46, l4_46, s0_46, g118_46, g119_46, x117_46⟩ := x9
        obtain ⟨hl, hS, hD, hP, hfh_46_98, hfh_46_100, hfh_46_102, hfh_46_104, hfh_46_117, hfh_46_118, hfh_46_119, hlh_46, hrh_46, hsp⟩ := hJ9
        replace hl : lv_has ls 7 [(0, .ref h0), (1, .int l1_46), (2, .int l2_46), (4, .int l4_46)] := hl
        replace hS : va_S A s.heap H locs := hS
        replace hD : va_D A [(h0, .inr (13, z46)), (qf104, .inl (cf104, 8, .inl f104)), (qf102, .inl (cf102, 2048, .inl f102)), (qf100, .inl (cf100, 48000, .inl f100)), (qf118, .inl (cf118, 2100, .inl g118_46)), (qf119, .inl (cf119, 2100, .inl g119_46))] := hD
        replace hP : va_P (dC, dI) vwCl [(h0, .inr (13, z46)), (qf104, .inl (cf104, 8, .inl f104)), (qf102, .inl (cf102, 2048, .inl f102)), (qf100, .inl (cf100, 48000, .inl f100)), (qf118, .inl (cf118, 2100, .inl g118_46)), (qf119, .inl (cf119, 2100, .inl g119_46))] H := hP
        replace hsp : jn_vm_nameNumber_46 nf a1 a2 v98 v117 f104 f102 f100 f118 f119 nS477 fS477 (lp_vm_nameNumber_21 nf n_21 a1 a2 v98 v117 f104 f102 f100 f118 f119 nS477 fS477) l1_46 l2_46 l4_46 s0_46 g118_46 g119_46 x117_46 = some (r0, o118, o119, w117) := hsp
        show W _ _ _ _ _ _ _ _ _ _ H locs _ _ _ (F0 m 46 ls [.int s0_46])
        unfold jn_vm_nameNumber_46 at hsp
        try dsimp only at hsp
        refine lv_istore (lv' := [(5, .int s0_46), (0, .ref h0), (1, .int l1_46), (2, .int l2_46), (4, .int l4_46)]) hx hb dX13_nameNumber_46 hl (by decide) rfl (fun ls hl => ?_)
        refine lv_iconst (v := 0) hx hb dX13_nameNumber_48 (by decide) ?_
        refine lv_istore (lv' := [(6, .int 0), (5, .int s0_46), (0, .ref h0), (1, .int l1_46), (2, .int l2_46), (4, .int l4_46)]) hx hb dX13_nameNumber_49 hl (by decide) rfl (fun ls hl => ?_)
        replace hl : lv_has ls 7 [(6, .int 0), (5, .int s0_46), (0, .ref h0), (1, .int l1_46), (2, .int l2_46), (4, .int l4_46)] := lv_sub hl [0, 1, 2, 3, 4, 5] rfl
        replace hP := hP.sub (ws' := [(h0, .inr (13, z46)), (qf104, .inl (cf104, 8, .inl f104)), (qf102, .inl (cf102, 2048, .inl f102)), (qf100, .inl (cf100, 48000, .inl f100)), (qf118, .inl (cf118, 2100, .inl g118_46)), (qf119, .inl (cf119, 2100, .inl g119_46))]) [0, 1, 2, 3, 4, 5] rfl
        replace hD := hD.sub (ws' := [(h0, .inr (13, z46)), (qf104, .inl (cf104, 8, .inl f104)), (qf102, .inl (cf102, 2048, .inl f102)), (qf100, .inl (cf100, 48000, .inl f100)), (qf118, .inl (cf118, 2100, .inl g118_46)), (qf119, .inl (cf119, 2100, .inl g119_46))]) [0, 1, 2, 3, 4, 5] (by decide) rfl
        replace hK := hK.sub (tys' := [(cf104, .int), (cf102, .int), (cf100, .int), (cf118, .int), (cf119, .int)]) [0, 1, 2, 3, 4] rfl
        obtain ⟨n_51, hn_51⟩ : ∃ z : Nat, z = nf := ⟨_, rfl⟩
        obtain ⟨l1_51, el1_51⟩ : ∃ z : Int32, z = l1_46 := ⟨_, rfl⟩
        obtain ⟨l2_51, el2_51⟩ : ∃ z : Int32, z = l2_46 := ⟨_, rfl⟩
        obtain ⟨l4_51, el4_51⟩ : ∃ z : Int32, z = l4_46 := ⟨_, rfl⟩
        obtain ⟨l5_51, el5_51⟩ : ∃ z : Int32, z = s0_46 := ⟨_, rfl⟩
        obtain ⟨l6_51, el6_51⟩ : ∃ z : Int32, z = 0 := ⟨_, rfl⟩
        obtain ⟨g118_51, eg118_51⟩ : ∃ z : Nat → Int32, z = g118_46 := ⟨_, rfl⟩
        obtain ⟨g119_51, eg119_51⟩ : ∃ z : Nat → Int32, z = g119_46 := ⟨_, rfl⟩
        obtain ⟨x117_51, ex117_51⟩ : ∃ z : Int32, z = x117_46 := ⟨_, rfl⟩
        replace hsp : lp_vm_nameNumber_51 nf n_51 a1 a2 v98 v117 f104 f102 f100 f118 f119 nS477 fS477 (lp_vm_nameNumber_21 nf n_21 a1 a2 v98 v117 f104 f102 f100 f118 f119 nS477 fS477) l1_51 l2_51 l4_51 l5_51 l6_51 g118_51 g119_51 x117_51 = some (r0, o118, o119, w117) := by rw [hn_51, el1_51, el2_51, el4_51, el5_51, el6_51, eg118_51, eg119_51, ex117_51]; exact hsp
        replace hl : lv_has ls 7 [(6, .int l6_51), (5, .int l5_51), (0, .ref h0), (1, .int l1_51), (2, .int l2_51), (4, .int l4_51)] := by rw [el1_51, el2_51, el4_51, el5_51, el6_51]; exact hl
        obtain ⟨z51, ez51⟩ : ∃ z : List Value, z = z46 := ⟨_, rfl⟩
        have hfh_51_98 : z51[98]? = some (.int v98) := by rw [ez51]; exact hfh_46_98
        have hfh_51_100 : z51[100]? = some (.ref qf100) := by rw [ez51]; exact hfh_46_100
        have hfh_51_102 : z51[102]? = some (.ref qf102) := by rw [ez51]; exact hfh_46_102
        have hfh_51_104 : z51[104]? = some (.ref qf104) := by rw [ez51]; exact hfh_46_104
        have hfh_51_117 : z51[117]? = some (.int x117_51) := by rw [ez51, ex117_51]; exact hfh_46_117
        have hfh_51_118 : z51[118]? = some (.ref qf118) := by rw [ez51]; exact hfh_46_118
        have hfh_51_119 : z51[119]? = some (.ref qf119) := by rw [ez51]; exact hfh_46_119
        have hlh_51 : z51.length = 155 := by rw [ez51]; exact hlh_46
        have hrh_51 : ∀ j : Nat, j ≠ 117 → z51[j]? = zs[j]? := by rw [ez51]; exact hrh_46
        replace hP : va_P (dC, dI) vwCl [(h0, .inr (13, z51)), (qf104, .inl (cf104, 8, .inl f104)), (qf102, .inl (cf102, 2048, .inl f102)), (qf100, .inl (cf100, 48000, .inl f100)), (qf118, .inl (cf118, 2100, .inl g118_51)), (qf119, .inl (cf119, 2100, .inl g119_51))] H := by rw [ez51, eg118_51, eg119_51]; exact hP
        replace hD : va_D A [(h0, .inr (13, z51)), (qf104, .inl (cf104, 8, .inl f104)), (qf102, .inl (cf102, 2048, .inl f102)), (qf100, .inl (cf100, 48000, .inl f100)), (qf118, .inl (cf118, 2100, .inl g118_51)), (qf119, .inl (cf119, 2100, .inl g119_51))] := by rw [ez51, eg118_51, eg119_51]; exact hD
        clear hn_51 ez51 el1_51 el2_51 el4_51 el5_51 el6_51 eg118_51 eg119_51 ex117_51
        try clear hlo
        try clear hH
        revert hsp
        revert hP
        revert hD
        revert hS
        revert hl
        revert hrh_51
        revert hlh_51
        revert hfh_51_119
        revert hfh_51_118
        revert hfh_51_117
        revert hfh_51_104
        revert hfh_51_102
        revert hfh_51_100
        revert hfh_51_98
        revert x117_51
        revert g119_51
        revert g118_51
        revert l6_51
        revert l5_51
        revert l4_51
        revert l2_51
        revert l1_51
        revert z51
        revert ls
        revert locs
        revert H
        induction n_51 with
        | zero => intro H locs ls z51 l1_51 l2_51 l4_51 l5_51 l6_51 g118_51 g119_51 x117_51 hfh_51_98 hfh_51_100 hfh_51_102 hfh_51_104 hfh_51_117 hfh_51_118 hfh_51_119 hlh_51 hrh_51 hl hS hD hP hsp; unfold lp_vm_nameNumber_51 at hsp; cases hsp
        | succ n_51 ih_51 =>
          intro H locs ls z51 l1_51 l2_51 l4_51 l5_51 l6_51 g118_51 g119_51 x117_51 hfh_51_98 hfh_51_100 hfh_51_102 hfh_51_104 hfh_51_117 hfh_51_118 hfh_51_119 hlh_51 hrh_51 hl hS hD hP hsp
          unfold lp_vm_nameNumber_51 at hsp
          try dsimp only at hsp
          refine lv_iload hx hb dX13_nameNumber_51 (lv_at hl 0 rfl) ?_
          refine lv_iload_n hx hb dX13_nameNumber_53 rfl (lv_at hl 4 rfl) ?_
          refine lv_icmp_ge (tgt := 102) hx hb dX13_nameNumber_54 (by decide) (fun c_10 => ?_) (fun c_10 => ?_)
          · rw [if_pos c_10] at hsp
            refine lv_iload hx hb dX13_nameNumber_102 (lv_at hl 1 rfl) ?_
            refine lv_if_eq (tgt := 113) hx hb dX13_nameNumber_104 (by decide) (fun c_11 => ?_) (fun c_11 => ?_)
            · rw [if_pos c_11] at hsp
              refine lv_iinc (v := (l4_51 + 1)) (lv' := [(4, .int (l4_51 + 1)), (6, .int l6_51), (5, .int l5_51), (0, .ref h0), (1, .int l1_51), (2, .int l2_51)]) hx hb dX13_nameNumber_113 hl (k := 5) rfl rfl (by decide) rfl (fun ls hl => ?_)
              refine lv_goto (tgt := 21) hx hb dX13_nameNumber_116 (by decide) ?_
              exact ih_21 H locs ls z51 l1_51 l2_51 (l4_51 + 1) g118_51 g119_51 x117_51 (hfh_51_98) (hfh_51_100) (hfh_51_102) (hfh_51_104) (hfh_51_117) (hfh_51_118) (hfh_51_119) hlh_51 hrh_51 (lv_sub hl [0, 3, 4, 5] rfl) hS (hD.sub (ws' := [(h0, .inr (13, z51)), (qf104, .inl (cf104, 8, .inl f104)), (qf102, .inl (cf102, 2048, .inl f102)), (qf100, .inl (cf100, 48000, .inl f100)), (qf118, .inl (cf118, 2100, .inl g118_51)), (qf119, .inl (cf119, 2100, .inl g119_51))]) [0, 1, 2, 3, 4, 5] (by decide) rfl) (hP.sub (ws' := [(h0, .inr (13, z51)), (qf104, .inl (cf104, 8, .inl f104)), (qf102, .inl (cf102, 2048, .inl f102)), (qf100, .inl (cf100, 48000, .inl f100)), (qf118, .inl (cf118, 2100, .inl g118_51)), (qf119, .inl (cf119, 2100, .inl g119_51))]) [0, 1, 2, 3, 4, 5] rfl) hsp
            · rw [if_neg c_11] at hsp
              refine lv_bipush (v := 16) hx hb dX13_nameNumber_107 (by decide) ?_
              refine lv_iload hx hb dX13_nameNumber_109 (lv_at hl 5 rfl) ?_
              refine lv_iadd hx hb dX13_nameNumber_111 ?_
              have hr0 := Option.some.inj hsp
              clear hsp
              obtain ⟨hq0, hr1⟩ := Prod.mk.inj hr0
              clear hr0
              obtain ⟨hq1, hr2⟩ := Prod.mk.inj hr1
              clear hr1
              obtain ⟨hq2, hr3⟩ := Prod.mk.inj hr2
              clear hr2
              subst hq0
              subst hq1
              subst hq2
              subst hr3
              have hP9 := hP.sub (ws' := [(h0, .inr (13, z51)), (qf104, .inl (cf104, 8, .inl f104)), (qf102, .inl (cf102, 2048, .inl f102)), (qf100, .inl (cf100, 48000, .inl f100)), (qf118, .inl (cf118, 2100, .inl g118_51)), (qf119, .inl (cf119, 2100, .inl g119_51))]) [0, 1, 2, 3, 4, 5] rfl
              have hD9 := hD.sub (ws' := [(h0, .inr (13, z51)), (qf104, .inl (cf104, 8, .inl f104)), (qf102, .inl (cf102, 2048, .inl f102)), (qf100, .inl (cf100, 48000, .inl f100)), (qf118, .inl (cf118, 2100, .inl g118_51)), (qf119, .inl (cf119, 2100, .inl g119_51))]) [0, 1, 2, 3, 4, 5] (by decide) rfl
              have hK9 := hK.sub (tys' := [(cf104, .int), (cf102, .int), (cf100, .int), (cf118, .int), (cf119, .int)]) [0, 1, 2, 3, 4] rfl
              exact W.iret hx hb hr (fun t ht hW => ⟨⟨((16 + l4_51)), (z51), rfl, ⟨rfl, hlh_51, hrh_51, hfh_51_117⟩, by rw [ht]; exact hP9, va_K.moved hW.alike hK9, hD9⟩, hS.F ht⟩) hS.2.2 dX13_nameNumber_112
          · rw [if_neg c_10] at hsp
            refine lv_iload hx hb dX13_nameNumber_57 (lv_at hl 1 rfl) ?_
            refine lv_if_eq (tgt := 102) hx hb dX13_nameNumber_59 (by decide) (fun c_12 => ?_) (fun c_12 => ?_)
            · rw [if_pos c_12] at hsp
              refine lv_iload hx hb dX13_nameNumber_102 (lv_at hl 1 rfl) ?_
              refine lv_if_eq (tgt := 113) hx hb dX13_nameNumber_104 (by decide) (fun c_13 => ?_) (fun c_13 => ?_)
              · rw [if_pos c_13] at hsp
                refine lv_iinc (v := (l4_51 + 1)) (lv' := [(4, .int (l4_51 + 1)), (6, .int l6_51), (5, .int l5_51), (0, .ref h0), (1, .int l1_51), (2, .int l2_51)]) hx hb dX13_nameNumber_113 hl (k := 5) rfl rfl (by decide) rfl (fun ls hl => ?_)
                refine lv_goto (tgt := 21) hx hb dX13_nameNumber_116 (by decide) ?_
                exact ih_21 H locs ls z51 l1_51 l2_51 (l4_51 + 1) g118_51 g119_51 x117_51 (hfh_51_98) (hfh_51_100) (hfh_51_102) (hfh_51_104) (hfh_51_117) (hfh_51_118) (hfh_51_119) hlh_51 hrh_51 (lv_sub hl [0, 3, 4, 5] rfl) hS (hD.sub (ws' := [(h0, .inr (13, z51)), (qf104, .inl (cf104, 8, .inl f104)), (qf102, .inl (cf102, 2048, .inl f102)), (qf100, .inl (cf100, 48000, .inl f100)), (qf118, .inl (cf118, 2100, .inl g118_51)), (qf119, .inl (cf119, 2100, .inl g119_51))]) [0, 1, 2, 3, 4, 5] (by decide) rfl) (hP.sub (ws' := [(h0, .inr (13, z51)), (qf104, .inl (cf104, 8, .inl f104)), (qf102, .inl (cf102, 2048, .inl f102)), (qf100, .inl (cf100, 48000, .inl f100)), (qf118, .inl (cf118, 2100, .inl g118_51)), (qf119, .inl (cf119, 2100, .inl g119_51))]) [0, 1, 2, 3, 4, 5] rfl) hsp
              · rw [if_neg c_13] at hsp
                refine lv_bipush (v := 16) hx hb dX13_nameNumber_107 (by decide) ?_
                refine lv_iload hx hb dX13_nameNumber_109 (lv_at hl 5 rfl) ?_
                refine lv_iadd hx hb dX13_nameNumber_111 ?_
                have hr0 := Option.some.inj hsp
                clear hsp
                obtain ⟨hq0, hr1⟩ := Prod.mk.inj hr0
                clear hr0
                obtain ⟨hq1, hr2⟩ := Prod.mk.inj hr1
                clear hr1
                obtain ⟨hq2, hr3⟩ := Prod.mk.inj hr2
                clear hr2
                subst hq0
                subst hq1
                subst hq2
                subst hr3
                have hP9 := hP.sub (ws' := [(h0, .inr (13, z51)), (qf104, .inl (cf104, 8, .inl f104)), (qf102, .inl (cf102, 2048, .inl f102)), (qf100, .inl (cf100, 48000, .inl f100)), (qf118, .inl (cf118, 2100, .inl g118_51)), (qf119, .inl (cf119, 2100, .inl g119_51))]) [0, 1, 2, 3, 4, 5] rfl
                have hD9 := hD.sub (ws' := [(h0, .inr (13, z51)), (qf104, .inl (cf104, 8, .inl f104)), (qf102, .inl (cf102, 2048, .inl f102)), (qf100, .inl (cf100, 48000, .inl f100)), (qf118, .inl (cf118, 2100, .inl g118_51)), (qf119, .inl (cf119, 2100, .inl g119_51))]) [0, 1, 2, 3, 4, 5] (by decide) rfl
                have hK9 := hK.sub (tys' := [(cf104, .int), (cf102, .int), (cf100, .int), (cf118, .int), (cf119, .int)]) [0, 1, 2, 3, 4] rfl
                exact W.iret hx hb hr (fun t ht hW => ⟨⟨((16 + l4_51)), (z51), rfl, ⟨rfl, hlh_51, hrh_51, hfh_51_117⟩, by rw [ht]; exact hP9, va_K.moved hW.alike hK9, hD9⟩, hS.F ht⟩) hS.2.2 dX13_nameNumber_112
            · rw [if_neg c_12] at hsp
              refine lv_aload_n hx hb dX13_nameNumber_62 rfl (lv_at hl 2 rfl) ?_
              refine va_get (D := (dC, dI)) (ci := 13) (v := .ref qf100) (C := RX13) (T := TX13) (N := 155) hx hb hts uV_h9_X13 hown hK hP 0 rfl rfl 100 (by decide) (hts (.fieldLink RX13 209 "ClassMillModel" "bytes" "[I") mw_h9_266) (fun _ h9 => h9) hfh_51_100 dX13_nameNumber_63 ?_
              refine lv_aload_n hx hb dX13_nameNumber_66 rfl (lv_at hl 2 rfl) ?_
              refine va_get (D := (dC, dI)) (ci := 13) (v := .ref qf118) (C := RX13) (T := TX13) (N := 155) hx hb hts uV_h9_X13 hown hK hP 0 rfl rfl 118 (by decide) (hts (.fieldLink RX13 251 "ClassMillModel" "otherAt" "[I") mw_h9_489) (fun _ h9 => h9) hfh_51_118 dX13_nameNumber_67 ?_
              refine lv_iload hx hb dX13_nameNumber_70 (lv_at hl 5 rfl) ?_
              obtain ⟨hi_14, hsp⟩ := ox_in hsp
              refine va_iald hx hb hK hP 4 3 rfl rfl (i := l4_51) hi_14 dX13_nameNumber_72 ?_
              refine lv_iload hx hb dX13_nameNumber_73 (lv_at hl 0 rfl) ?_
              refine lv_iadd hx hb dX13_nameNumber_75 ?_
              obtain ⟨hi_15, hsp⟩ := ox_in hsp
              refine va_iald hx hb hK hP 3 2 rfl rfl (i := ((g118_51 (l4_51 : Int32).toNatClampNeg) + l6_51)) hi_15 dX13_nameNumber_76 ?_
              refine lv_aload_n hx hb dX13_nameNumber_77 rfl (lv_at hl 2 rfl) ?_
              refine va_get (D := (dC, dI)) (ci := 13) (v := .ref qf100) (C := RX13) (T := TX13) (N := 155) hx hb hts uV_h9_X13 hown hK hP 0 rfl rfl 100 (by decide) (hts (.fieldLink RX13 209 "ClassMillModel" "bytes" "[I") mw_h9_266) (fun _ h9 => h9) hfh_51_100 dX13_nameNumber_78 ?_
              refine lv_iload_n hx hb dX13_nameNumber_81 rfl (lv_at hl 3 rfl) ?_
              refine lv_iload hx hb dX13_nameNumber_82 (lv_at hl 0 rfl) ?_
              refine lv_iadd hx hb dX13_nameNumber_84 ?_
              obtain ⟨hi_16, hsp⟩ := ox_in hsp
              refine va_iald hx hb hK hP 3 2 rfl rfl (i := (l1_51 + l6_51)) hi_16 dX13_nameNumber_85 ?_
              refine lv_icmp_ne (tgt := 93) hx hb dX13_nameNumber_86 (by decide) (fun c_17 => ?_) (fun c_17 => ?_)
              · rw [if_neg c_17] at hsp
                refine lv_iconst (v := 0) hx hb dX13_nameNumber_93 (by decide) ?_
                refine lv_istore (lv' := [(5, .int 0), (6, .int l6_51), (0, .ref h0), (1, .int l1_51), (2, .int l2_51), (4, .int l4_51)]) hx hb dX13_nameNumber_94 hl (by decide) rfl (fun ls hl => ?_)
                refine lv_iinc (v := (l6_51 + 1)) (lv' := [(6, .int (l6_51 + 1)), (5, .int 0), (0, .ref h0), (1, .int l1_51), (2, .int l2_51), (4, .int l4_51)]) hx hb dX13_nameNumber_96 hl (k := 1) rfl rfl (by decide) rfl (fun ls hl => ?_)
                refine lv_goto (tgt := 51) hx hb dX13_nameNumber_99 (by decide) ?_
                exact ih_51 H locs ls z51 l1_51 l2_51 l4_51 0 (l6_51 + 1) g118_51 g119_51 x117_51 (hfh_51_98) (hfh_51_100) (hfh_51_102) (hfh_51_104) (hfh_51_117) (hfh_51_118) (hfh_51_119) hlh_51 hrh_51 (lv_sub hl [0, 1, 2, 3, 4, 5] rfl) hS (hD.sub (ws' := [(h0, .inr (13, z51)), (qf104, .inl (cf104, 8, .inl f104)), (qf102, .inl (cf102, 2048, .inl f102)), (qf100, .inl (cf100, 48000, .inl f100)), (qf118, .inl (cf118, 2100, .inl g118_51)), (qf119, .inl (cf119, 2100, .inl g119_51))]) [0, 1, 2, 3, 4, 5] (by decide) rfl) (hP.sub (ws' := [(h0, .inr (13, z51)), (qf104, .inl (cf104, 8, .inl f104)), (qf102, .inl (cf102, 2048, .inl f102)), (qf100, .inl (cf100, 48000, .inl f100)), (qf118, .inl (cf118, 2100, .inl g118_51)), (qf119, .inl (cf119, 2100, .inl g119_51))]) [0, 1, 2, 3, 4, 5] rfl) hsp
              · rw [if_pos c_17] at hsp
                refine lv_iconst (v := 1) hx hb dX13_nameNumber_89 (by decide) ?_
                refine lv_goto (tgt := 94) hx hb dX13_nameNumber_90 (by decide) ?_
                refine lv_istore (lv' := [(5, .int 1), (6, .int l6_51), (0, .ref h0), (1, .int l1_51), (2, .int l2_51), (4, .int l4_51)]) hx hb dX13_nameNumber_94 hl (by decide) rfl (fun ls hl => ?_)
                refine lv_iinc (v := (l6_51 + 1)) (lv' := [(6, .int (l6_51 + 1)), (5, .int 1), (0, .ref h0), (1, .int l1_51), (2, .int l2_51), (4, .int l4_51)]) hx hb dX13_nameNumber_96 hl (k := 1) rfl rfl (by decide) rfl (fun ls hl => ?_)
                refine lv_goto (tgt := 51) hx hb dX13_nameNumber_99 (by decide) ?_
                exact ih_51 H locs ls z51 l1_51 l2_51 l4_51 1 (l6_51 + 1) g118_51 g119_51 x117_51 (hfh_51_98) (hfh_51_100) (hfh_51_102) (hfh_51_104) (hfh_51_117) (hfh_51_118) (hfh_51_119) hlh_51 hrh_51 (lv_sub hl [0, 1, 2, 3, 4, 5] rfl) hS (hD.sub (ws' := [(h0, .inr (13, z51)), (qf104, .inl (cf104, 8, .inl f104)), (qf102, .inl (cf102, 2048, .inl f102)), (qf100, .inl (cf100, 48000, .inl f100)), (qf118, .inl (cf118, 2100, .inl g118_51)), (qf119, .inl (cf119, 2100, .inl g119_51))]) [0, 1, 2, 3, 4, 5] (by decide) rfl) (hP.sub (ws' := [(h0, .inr (13, z51)), (qf104, .inl (cf104, 8, .inl f104)), (qf102, .inl (cf102, 2048, .inl f102)), (qf100, .inl (cf100, 48000, .inl f100)), (qf118, .inl (cf118, 2100, .inl g118_51)), (qf119, .inl (cf119, 2100, .inl g119_51))]) [0, 1, 2, 3, 4, 5] rfl) hsp
      intro hj_46
      refine lv_iload hx hb dX13_nameNumber_21 (lv_at hl 0 rfl) ?_
      refine lv_aload_n hx hb dX13_nameNumber_23 rfl (lv_at hl 1 rfl) ?_
      refine va_get (D := (dC, dI)) (ci := 13) (v := .int x117_21) (C := RX13) (T := TX13) (N := 155) hx hb hts uV_h9_X13 hown hK hP 0 rfl rfl 117 (by decide) (hts (.fieldLink RX13 876 "ClassMillModel" "others" "I") mw_h9_490) (fun _ h9 => h9) hfh_21_117 dX13_nameNumber_24 ?_
      refine lv_icmp_ge (tgt := 119) hx hb dX13_nameNumber_27 (by decide) (fun c_3 => ?_) (fun c_3 => ?_)
      · rw [if_pos c_3] at hsp
        refine lv_aload_n hx hb dX13_nameNumber_119 rfl (lv_at hl 1 rfl) ?_
        refine va_get (D := (dC, dI)) (ci := 13) (v := .ref qf118) (C := RX13) (T := TX13) (N := 155) hx hb hts uV_h9_X13 hown hK hP 0 rfl rfl 118 (by decide) (hts (.fieldLink RX13 251 "ClassMillModel" "otherAt" "[I") mw_h9_489) (fun _ h9 => h9) hfh_21_118 dX13_nameNumber_120 ?_
        refine lv_aload_n hx hb dX13_nameNumber_123 rfl (lv_at hl 1 rfl) ?_
        refine va_get (D := (dC, dI)) (ci := 13) (v := .int x117_21) (C := RX13) (T := TX13) (N := 155) hx hb hts uV_h9_X13 hown hK hP 0 rfl rfl 117 (by decide) (hts (.fieldLink RX13 876 "ClassMillModel" "others" "I") mw_h9_490) (fun _ h9 => h9) hfh_21_117 dX13_nameNumber_124 ?_
        refine lv_iload_n hx hb dX13_nameNumber_127 rfl (lv_at hl 2 rfl) ?_
        obtain ⟨hi_4, hsp⟩ := ox_in hsp
        refine va_iast hx hb hK hP hD hS 4 3 rfl rfl (i := x117_21) (x := l1_21) hi_4 dX13_nameNumber_128 ?_
        clear hP hD hS
        intro H locs hP hD hS
        replace hP : va_P (dC, dI) vwCl [(h0, .inr (13, z21)), (qf104, .inl (cf104, 8, .inl f104)), (qf102, .inl (cf102, 2048, .inl f102)), (qf100, .inl (cf100, 48000, .inl f100)), (qf118, .inl (cf118, 2100, .inl (upd g118_21 (x117_21 : Int32).toNatClampNeg l1_21))), (qf119, .inl (cf119, 2100, .inl g119_21))] H := hP
        replace hD : va_D A [(h0, .inr (13, z21)), (qf104, .inl (cf104, 8, .inl f104)), (qf102, .inl (cf102, 2048, .inl f102)), (qf100, .inl (cf100, 48000, .inl f100)), (qf118, .inl (cf118, 2100, .inl (upd g118_21 (x117_21 : Int32).toNatClampNeg l1_21))), (qf119, .inl (cf119, 2100, .inl g119_21))] := hD
        refine lv_aload_n hx hb dX13_nameNumber_129 rfl (lv_at hl 1 rfl) ?_
        refine va_get (D := (dC, dI)) (ci := 13) (v := .ref qf119) (C := RX13) (T := TX13) (N := 155) hx hb hts uV_h9_X13 hown hK hP 0 rfl rfl 119 (by decide) (hts (.fieldLink RX13 254 "ClassMillModel" "otherSize" "[I") mw_h9_491) (fun _ h9 => h9) hfh_21_119 dX13_nameNumber_130 ?_
        refine lv_aload_n hx hb dX13_nameNumber_133 rfl (lv_at hl 1 rfl) ?_
        refine va_get (D := (dC, dI)) (ci := 13) (v := .int x117_21) (C := RX13) (T := TX13) (N := 155) hx hb hts uV_h9_X13 hown hK hP 0 rfl rfl 117 (by decide) (hts (.fieldLink RX13 876 "ClassMillModel" "others" "I") mw_h9_490) (fun _ h9 => h9) hfh_21_117 dX13_nameNumber_134 ?_
        refine lv_iload_n hx hb dX13_nameNumber_137 rfl (lv_at hl 3 rfl) ?_
        obtain ⟨hi_5, hsp⟩ := ox_in hsp
        refine va_iast hx hb hK hP hD hS 5 4 rfl rfl (i := x117_21) (x := l2_21) hi_5 dX13_nameNumber_138 ?_
        clear hP hD hS
        intro H locs hP hD hS
        replace hP : va_P (dC, dI) vwCl [(h0, .inr (13, z21)), (qf104, .inl (cf104, 8, .inl f104)), (qf102, .inl (cf102, 2048, .inl f102)), (qf100, .inl (cf100, 48000, .inl f100)), (qf118, .inl (cf118, 2100, .inl (upd g118_21 (x117_21 : Int32).toNatClampNeg l1_21))), (qf119, .inl (cf119, 2100, .inl (upd g119_21 (x117_21 : Int32).toNatClampNeg l2_21)))] H := hP
        replace hD : va_D A [(h0, .inr (13, z21)), (qf104, .inl (cf104, 8, .inl f104)), (qf102, .inl (cf102, 2048, .inl f102)), (qf100, .inl (cf100, 48000, .inl f100)), (qf118, .inl (cf118, 2100, .inl (upd g118_21 (x117_21 : Int32).toNatClampNeg l1_21))), (qf119, .inl (cf119, 2100, .inl (upd g119_21 (x117_21 : Int32).toNatClampNeg l2_21)))] := hD
        refine lv_aload_n hx hb dX13_nameNumber_139 rfl (lv_at hl 1 rfl) ?_
        refine lv_dup hx hb dX13_nameNumber_140 rfl ?_
        refine va_get (D := (dC, dI)) (ci := 13) (v := .int x117_21) (C := RX13) (T := TX13) (N := 155) hx hb hts uV_h9_X13 hown hK hP 0 rfl rfl 117 (by decide) (hts (.fieldLink RX13 876 "ClassMillModel" "others" "I") mw_h9_490) (fun _ h9 => h9) hfh_21_117 dX13_nameNumber_141 ?_
        refine lv_iconst (v := 1) hx hb dX13_nameNumber_144 (by decide) ?_
        refine lv_iadd hx hb dX13_nameNumber_145 ?_
        refine va_put (D := (dC, dI)) (ci := 13) (v := .int (x117_21 + 1)) (ty := .int) (C := RX13) (T := TX13) (N := 155) hx hb hts uV_h9_X13 tyX13 tyX13_ok nmX13 hown hK hP hD hS 0 rfl rfl 117 (by decide) (hts (.fieldLink RX13 876 "ClassMillModel" "others" "I") mw_h9_490) (fun _ h9 => h9) rfl (by decide +kernel) rfl rfl (by rw [hlh_21]; decide) dX13_nameNumber_146 ?_
        clear hP hD hS
        intro H locs hP hD hS
        obtain ⟨fs_6, efs_6⟩ : ∃ zf : List Value, zf = z21.set 117 (.int (x117_21 + 1)) := ⟨_, rfl⟩
        rw [← efs_6] at hP hD
        have hlfs_6 : fs_6.length = 155 := by rw [efs_6, List.length_set]; exact hlh_21
        have hfs_6_98 : fs_6[98]? = some (.int v98) := by rw [efs_6, List.getElem?_set_ne (by decide)]; exact hfh_21_98
        have hfs_6_100 : fs_6[100]? = some (.ref qf100) := by rw [efs_6, List.getElem?_set_ne (by decide)]; exact hfh_21_100
        have hfs_6_102 : fs_6[102]? = some (.ref qf102) := by rw [efs_6, List.getElem?_set_ne (by decide)]; exact hfh_21_102
        have hfs_6_104 : fs_6[104]? = some (.ref qf104) := by rw [efs_6, List.getElem?_set_ne (by decide)]; exact hfh_21_104
        have hfs_6_118 : fs_6[118]? = some (.ref qf118) := by rw [efs_6, List.getElem?_set_ne (by decide)]; exact hfh_21_118
        have hfs_6_119 : fs_6[119]? = some (.ref qf119) := by rw [efs_6, List.getElem?_set_ne (by decide)]; exact hfh_21_119
        have hfs_6_117 : fs_6[117]? = some (.int (x117_21 + 1)) := by rw [efs_6, List.getElem?_set_self (by rw [hlh_21]; decide)]
        replace hP : va_P (dC, dI) vwCl [(h0, .inr (13, fs_6)), (qf104, .inl (cf104, 8, .inl f104)), (qf102, .inl (cf102, 2048, .inl f102)), (qf100, .inl (cf100, 48000, .inl f100)), (qf118, .inl (cf118, 2100, .inl (upd g118_21 (x117_21 : Int32).toNatClampNeg l1_21))), (qf119, .inl (cf119, 2100, .inl (upd g119_21 (x117_21 : Int32).toNatClampNeg l2_21)))] H := hP
        replace hD : va_D A [(h0, .inr (13, fs_6)), (qf104, .inl (cf104, 8, .inl f104)), (qf102, .inl (cf102, 2048, .inl f102)), (qf100, .inl (cf100, 48000, .inl f100)), (qf118, .inl (cf118, 2100, .inl (upd g118_21 (x117_21 : Int32).toNatClampNeg l1_21))), (qf119, .inl (cf119, 2100, .inl (upd g119_21 (x117_21 : Int32).toNatClampNeg l2_21)))] := hD
        have hrs_7 : ∀ j : Nat, j ≠ 117 → fs_6[j]? = zs[j]? := fun j g117 => ((congrArg (fun z : List Value => z[j]?) efs_6).trans (List.getElem?_set_ne (Ne.symm g117))).trans (hrh_21 j g117)
        refine lv_bipush (v := 16) hx hb dX13_nameNumber_149 (by decide) ?_
        refine lv_aload_n hx hb dX13_nameNumber_151 rfl (lv_at hl 1 rfl) ?_
        refine va_get (D := (dC, dI)) (ci := 13) (v := .int (x117_21 + 1)) (C := RX13) (T := TX13) (N := 155) hx hb hts uV_h9_X13 hown hK hP 0 rfl rfl 117 (by decide) (hts (.fieldLink RX13 876 "ClassMillModel" "others" "I") mw_h9_490) (fun _ h9 => h9) hfs_6_117 dX13_nameNumber_152 ?_
        refine lv_iadd hx hb dX13_nameNumber_155 ?_
        refine lv_iconst (v := 1) hx hb dX13_nameNumber_156 (by decide) ?_
        refine lv_isub hx hb dX13_nameNumber_157 ?_
        have hr0 := Option.some.inj hsp
        clear hsp
        obtain ⟨hq0, hr1⟩ := Prod.mk.inj hr0
        clear hr0
        obtain ⟨hq1, hr2⟩ := Prod.mk.inj hr1
        clear hr1
        obtain ⟨hq2, hr3⟩ := Prod.mk.inj hr2
        clear hr2
        subst hq0
        subst hq1
        subst hq2
        subst hr3
        have hP9 := hP.sub (ws' := [(h0, .inr (13, fs_6)), (qf104, .inl (cf104, 8, .inl f104)), (qf102, .inl (cf102, 2048, .inl f102)), (qf100, .inl (cf100, 48000, .inl f100)), (qf118, .inl (cf118, 2100, .inl (upd g118_21 (x117_21 : Int32).toNatClampNeg l1_21))), (qf119, .inl (cf119, 2100, .inl (upd g119_21 (x117_21 : Int32).toNatClampNeg l2_21)))]) [0, 1, 2, 3, 4, 5] rfl
        have hD9 := hD.sub (ws' := [(h0, .inr (13, fs_6)), (qf104, .inl (cf104, 8, .inl f104)), (qf102, .inl (cf102, 2048, .inl f102)), (qf100, .inl (cf100, 48000, .inl f100)), (qf118, .inl (cf118, 2100, .inl (upd g118_21 (x117_21 : Int32).toNatClampNeg l1_21))), (qf119, .inl (cf119, 2100, .inl (upd g119_21 (x117_21 : Int32).toNatClampNeg l2_21)))]) [0, 1, 2, 3, 4, 5] (by decide) rfl
        have hK9 := hK.sub (tys' := [(cf104, .int), (cf102, .int), (cf100, .int), (cf118, .int), (cf119, .int)]) [0, 1, 2, 3, 4] rfl
        exact W.iret hx hb hr (fun t ht hW => ⟨⟨(((16 + (x117_21 + 1)) - 1)), (fs_6), rfl, ⟨rfl, hlfs_6, hrs_7, hfs_6_117⟩, by rw [ht]; exact hP9, va_K.moved hW.alike hK9, hD9⟩, hS.F ht⟩) hS.2.2 dX13_nameNumber_158
      · rw [if_neg c_3] at hsp
        refine lv_aload_n hx hb dX13_nameNumber_30 rfl (lv_at hl 1 rfl) ?_
        refine va_get (D := (dC, dI)) (ci := 13) (v := .ref qf119) (C := RX13) (T := TX13) (N := 155) hx hb hts uV_h9_X13 hown hK hP 0 rfl rfl 119 (by decide) (hts (.fieldLink RX13 254 "ClassMillModel" "otherSize" "[I") mw_h9_491) (fun _ h9 => h9) hfh_21_119 dX13_nameNumber_31 ?_
        refine lv_iload hx hb dX13_nameNumber_34 (lv_at hl 0 rfl) ?_
        obtain ⟨hi_8, hsp⟩ := ox_in hsp
        refine va_iald hx hb hK hP 5 4 rfl rfl (i := l4_21) hi_8 dX13_nameNumber_36 ?_
        refine lv_iload_n hx hb dX13_nameNumber_37 rfl (lv_at hl 3 rfl) ?_
        refine lv_icmp_ne (tgt := 45) hx hb dX13_nameNumber_38 (by decide) (fun c_9 => ?_) (fun c_9 => ?_)
        · rw [if_neg c_9] at hsp
          refine lv_iconst (v := 0) hx hb dX13_nameNumber_45 (by decide) ?_
          exact hj_46 (H, locs, ls, z21, l1_21, l2_21, l4_21, 0, g118_21, g119_21, x117_21) ⟨lv_sub hl [1, 2, 3, 0] rfl, hS, hD.sub (ws' := [(h0, .inr (13, z21)), (qf104, .inl (cf104, 8, .inl f104)), (qf102, .inl (cf102, 2048, .inl f102)), (qf100, .inl (cf100, 48000, .inl f100)), (qf118, .inl (cf118, 2100, .inl g118_21)), (qf119, .inl (cf119, 2100, .inl g119_21))]) [0, 1, 2, 3, 4, 5] (by decide) rfl, hP.sub (ws' := [(h0, .inr (13, z21)), (qf104, .inl (cf104, 8, .inl f104)), (qf102, .inl (cf102, 2048, .inl f102)), (qf100, .inl (cf100, 48000, .inl f100)), (qf118, .inl (cf118, 2100, .inl g118_21)), (qf119, .inl (cf119, 2100, .inl g119_21))]) [0, 1, 2, 3, 4, 5] rfl, hfh_21_98, hfh_21_100, hfh_21_102, hfh_21_104, hfh_21_117, hfh_21_118, hfh_21_119, hlh_21, hrh_21, hsp⟩
        · rw [if_pos c_9] at hsp
          refine lv_iconst (v := 1) hx hb dX13_nameNumber_41 (by decide) ?_
          refine lv_goto (tgt := 46) hx hb dX13_nameNumber_42 (by decide) ?_
          exact hj_46 (H, locs, ls, z21, l1_21, l2_21, l4_21, 1, g118_21, g119_21, x117_21) ⟨lv_sub hl [1, 2, 3, 0] rfl, hS, hD.sub (ws' := [(h0, .inr (13, z21)), (qf104, .inl (cf104, 8, .inl f104)), (qf102, .inl (cf102, 2048, .inl f102)), (qf100, .inl (cf100, 48000, .inl f100)), (qf118, .inl (cf118, 2100, .inl g118_21)), (qf119, .inl (cf119, 2100, .inl g119_21))]) [0, 1, 2, 3, 4, 5] (by decide) rfl, hP.sub (ws' := [(h0, .inr (13, z21)), (qf104, .inl (cf104, 8, .inl f104)), (qf102, .inl (cf102, 2048, .inl f102)), (qf100, .inl (cf100, 48000, .inl f100)), (qf118, .inl (cf118, 2100, .inl g118_21)), (qf119, .inl (cf119, 2100, .inl g119_21))]) [0, 1, 2, 3, 4, 5] rfl, hfh_21_98, hfh_21_100, hfh_21_102, hfh_21_104, hfh_21_117, hfh_21_118, hfh_21_119, hlh_21, hrh_21, hsp⟩
  · rw [if_neg c_2] at hsp
    refine lv_iload_n hx hb dX13_nameNumber_16 rfl (lv_at hl 0 rfl) ?_
    have hr0 := Option.some.inj hsp
    clear hsp
    obtain ⟨hq0, hr1⟩ := Prod.mk.inj hr0
    clear hr0
    obtain ⟨hq1, hr2⟩ := Prod.mk.inj hr1
    clear hr1
    obtain ⟨hq2, hr3⟩ := Prod.mk.inj hr2
    clear hr2
    subst hq0
    subst hq1
    subst hq2
    subst hr3
    have hP9 := hP.sub (ws' := [(h0, .inr (13, z_1)), (qf104, .inl (cf104, 8, .inl f104)), (qf102, .inl (cf102, 2048, .inl f102)), (qf100, .inl (cf100, 48000, .inl f100)), (qf118, .inl (cf118, 2100, .inl f118)), (qf119, .inl (cf119, 2100, .inl f119))]) [2, 3, 4, 5, 0, 1] rfl
    have hD9 := hD.sub (ws' := [(h0, .inr (13, z_1)), (qf104, .inl (cf104, 8, .inl f104)), (qf102, .inl (cf102, 2048, .inl f102)), (qf100, .inl (cf100, 48000, .inl f100)), (qf118, .inl (cf118, 2100, .inl f118)), (qf119, .inl (cf119, 2100, .inl f119))]) [2, 3, 4, 5, 0, 1] (by decide) rfl
    have hK9 := hK.sub (tys' := [(cf104, .int), (cf102, .int), (cf100, .int), (cf118, .int), (cf119, .int)]) [2, 3, 4, 0, 1] rfl
    exact W.iret hx hb hr (fun t ht hW => ⟨⟨(u1_0), (z_1), rfl, ⟨rfl, hln_1, hrq_1, hfk_1_117⟩, by rw [ht]; exact hP9, va_K.moved hW.alike hK9, hD9⟩, hS.F ht⟩) hS.2.2 dX13_nameNumber_17
def lp_vm_typeAt_75 (nf n : Nat) (a1 : Int32) (v98 : Int32) (v117 : Int32) (f100 : Nat → Int32) (f104 : Nat → Int32) (f102 : Nat → Int32) (f118 : Nat → Int32) (f119 : Nat → Int32) (nS477 : Nat) (fS477 : Nat → Int32)  (l2_75 : Int32) (l3_75 : Int32) (l4_75 : Int32) (g118_75 : Nat → Int32) (g119_75 : Nat → Int32) (x117_75 : Int32) (x120_75 : Int32) : Option (Int32 × (Nat → Int32) × (Nat → Int32) × Int32 × Int32) := match n with
  | 0 => none
  | n + 1 => (if l4_75 < 0 then none else if 48000 ≤ (l4_75 : Int32).toNatClampNeg then none else (if (f100 (l4_75 : Int32).toNatClampNeg) = 59 then ((sp_vm_nameNumber nf (l3_75 + 1) ((l4_75 - l3_75) - 1) v98 x117_75 f104 f102 f100 g118_75 g119_75 nS477 fS477).bind (fun p1 => (if l2_75 = 91 then (some (((4 + (2 * p1.1)) + 1), p1.2.1, p1.2.2.1, p1.2.2.2, (l4_75 + 1))) else (some (((4 + (2 * p1.1)) + 0), p1.2.1, p1.2.2.1, p1.2.2.2, (l4_75 + 1)))))) else (lp_vm_typeAt_75 nf n a1 v98 v117 f100 f104 f102 f118 f119 nS477 fS477 l2_75 l3_75 (l4_75 + 1) g118_75 g119_75 x117_75 x120_75)))
def jn_vm_typeAt_49 (nf : Nat) (a1 : Int32) (v98 : Int32) (v117 : Int32) (f100 : Nat → Int32) (f104 : Nat → Int32) (f102 : Nat → Int32) (f118 : Nat → Int32) (f119 : Nat → Int32) (nS477 : Nat) (fS477 : Nat → Int32)  (l2_49 : Int32) (s0_49 : Int32) (g118_49 : Nat → Int32) (g119_49 : Nat → Int32) (x117_49 : Int32) (x120_49 : Int32) : Option (Int32 × (Nat → Int32) × (Nat → Int32) × Int32 × Int32) := (if s0_49 < 0 then none else if 48000 ≤ (s0_49 : Int32).toNatClampNeg then none else (if (f100 (s0_49 : Int32).toNatClampNeg) = 73 then (some (3, g118_49, g119_49, x117_49, (s0_49 + 1))) else (lp_vm_typeAt_75 nf nf a1 v98 v117 f100 f104 f102 f118 f119 nS477 fS477  l2_49 s0_49 (s0_49 + 1) g118_49 g119_49 x117_49 x120_49)))
def sp_vm_typeAt (nf : Nat) (a1 : Int32) (v98 : Int32) (v117 : Int32) (f100 : Nat → Int32) (f104 : Nat → Int32) (f102 : Nat → Int32) (f118 : Nat → Int32) (f119 : Nat → Int32) (nS477 : Nat) (fS477 : Nat → Int32) : Option (Int32 × (Nat → Int32) × (Nat → Int32) × Int32 × Int32) := (if a1 < 0 then none else if 48000 ≤ (a1 : Int32).toNatClampNeg then none else (if (f100 (a1 : Int32).toNatClampNeg) = 73 then (some (1, f118, f119, v117, (a1 + 1))) else (if (f100 (a1 : Int32).toNatClampNeg) = 90 then (some (1, f118, f119, v117, (a1 + 1))) else (if (f100 (a1 : Int32).toNatClampNeg) = 86 then (some (0, f118, f119, v117, (a1 + 1))) else (if (f100 (a1 : Int32).toNatClampNeg) = 91 then (jn_vm_typeAt_49 nf a1 v98 v117 f100 f104 f102 f118 f119 nS477 fS477  (f100 (a1 : Int32).toNatClampNeg) (a1 + 1) f118 f119 v117 (a1 + 1)) else (jn_vm_typeAt_49 nf a1 v98 v117 f100 f104 f102 f118 f119 nS477 fS477  (f100 (a1 : Int32).toNatClampNeg) a1 f118 f119 v117 (a1 + 1)))))))
set_option maxHeartbeats 4000000 in
set_option maxRecDepth 100000 in
/-- ClassMillModel.typeAt -/
theorem vm_typeAt (l : Launch) (dC : Nat → ClassId) (dI : Nat → Nat → Nat) (sz : Nat) (h0 : Nat) (zs : (List Value)) (a1 : Int32) (v98 : Int32) (qf100 : Nat) (qf102 : Nat) (qf104 : Nat) (v117 : Int32) (qf118 : Nat) (qf119 : Nat) (v120 : Int32) (cf100 : ClassId) (f100 : (Nat → Int32)) (cf104 : ClassId) (f104 : (Nat → Int32)) (cf102 : ClassId) (f102 : (Nat → Int32)) (cf118 : ClassId) (f118 : (Nat → Int32)) (cf119 : ClassId) (f119 : (Nat → Int32)) (nS477 : Nat) (fS477 : (Nat → Int32)) (hS477 : Nat) (qS477 : Nat) (tS477 : String) (nf : Nat) (r0 : Int32) (o118 : (Nat → Int32)) (o119 : (Nat → Int32)) (w117 : Int32) (w120 : Int32) (hlen : zs.length = 155) (hf98 : zs[98]? = some (.int v98)) (hf100 : zs[100]? = some (.ref qf100)) (hf102 : zs[102]? = some (.ref qf102)) (hf104 : zs[104]? = some (.ref qf104)) (hf117 : zs[117]? = some (.int v117)) (hf118 : zs[118]? = some (.ref qf118)) (hf119 : zs[119]? = some (.ref qf119)) (hf120 : zs[120]? = some (.int v120)) (hsp : sp_vm_typeAt nf a1 v98 v117 f100 f104 f102 f118 f119 nS477 fS477 = some (r0, o118, o119, w117, w120)) : Met l yX13_typeAt (.code yX13_typeAt cX13_typeAt 5 (some .int) :: VS_h9) ({ frames := 7, cells := 0, slots := 0, locals := 163 }) (va_Pc [.ref h0, .int a1] (fun U => U.heap.size = sz ∧ va_P (dC, dI) vwCl [(h0, .inr (13, zs)), (qf100, .inl (cf100, 48000, .inl f100)), (qf104, .inl (cf104, 8, .inl f104)), (qf102, .inl (cf102, 2048, .inl f102)), (qf118, .inl (cf118, 2100, .inl f118)), (qf119, .inl (cf119, 2100, .inl f119))] U.heap ∧ va_K (dC, dI) vwCl [(cf100, .int), (cf104, .int), (cf102, .int), (cf118, .int), (cf119, .int)] U ∧ va_D (fun _ => True) [(h0, .inr (13, zs)), (qf100, .inl (cf100, 48000, .inl f100)), (qf104, .inl (cf104, 8, .inl f104)), (qf102, .inl (cf102, 2048, .inl f102)), (qf118, .inl (cf118, 2100, .inl f118)), (qf119, .inl (cf119, 2100, .inl f119))] ∧ pz_W nS477 fS477 hS477 qS477 (va_A [(h0, .inr (13, zs)), (qf100, .inl (cf100, 48000, .inl f100)), (qf104, .inl (cf104, 8, .inl f104)), (qf102, .inl (cf102, 2048, .inl f102)), (qf118, .inl (cf118, 2100, .inl f118)), (qf119, .inl (cf119, 2100, .inl f119))] sz) U U.heap ∧ vk_R RX13 477 tS477 hS477 U)) (va_Qi (fun (r : Int32) (u : (List Value)) => match u with | (zo1) => r0 = r ∧ zo1.length = 155 ∧ (∀ j : Nat, j ≠ 117 → j ≠ 120 → zo1[j]? = zs[j]?) ∧ zo1[117]? = some (.int w117) ∧ zo1[120]? = some (.int w120)) (fun (u : (List Value)) (t : State) => match u with | (zo1) => va_P (dC, dI) vwCl [(h0, .inr (13, zo1)), (qf100, .inl (cf100, 48000, .inl f100)), (qf104, .inl (cf104, 8, .inl f104)), (qf102, .inl (cf102, 2048, .inl f102)), (qf118, .inl (cf118, 2100, .inl o118)), (qf119, .inl (cf119, 2100, .inl o119))] t.heap ∧ va_K (dC, dI) vwCl [(cf100, .int), (cf104, .int), (cf102, .int), (cf118, .int), (cf119, .int)] t ∧ va_D (va_A [(h0, .inr (13, zs)), (qf100, .inl (cf100, 48000, .inl f100)), (qf104, .inl (cf104, 8, .inl f104)), (qf102, .inl (cf102, 2048, .inl f102)), (qf118, .inl (cf118, 2100, .inl f118)), (qf119, .inl (cf119, 2100, .inl f119))] sz) [(h0, .inr (13, zo1)), (qf100, .inl (cf100, 48000, .inl f100)), (qf104, .inl (cf104, 8, .inl f104)), (qf102, .inl (cf102, 2048, .inl f102)), (qf118, .inl (cf118, 2100, .inl o118)), (qf119, .inl (cf119, 2100, .inl o119))]) (va_A [(h0, .inr (13, zs)), (qf100, .inl (cf100, 48000, .inl f100)), (qf104, .inl (cf104, 8, .inl f104)), (qf102, .inl (cf102, 2048, .inl f102)), (qf118, .inl (cf118, 2100, .inl f118)), (qf119, .inl (cf119, 2100, .inl f119))] sz)) 0 0 (va_A [(h0, .inr (13, zs)), (qf100, .inl (cf100, 48000, .inl f100)), (qf104, .inl (cf104, 8, .inl f104)), (qf102, .inl (cf102, 2048, .inl f102)), (qf118, .inl (cf118, 2100, .inl f118)), (qf119, .inl (cf119, 2100, .inl f119))] sz) := by
  refine Met.ofW (cc := cX13_typeAt) (maxL := 5) (ret := (some .int)) (by decide) rfl ?_
  intro p e s m args below meth c s₁ B hml hv
  obtain ⟨rfl, hsz, hP, hK, hD0, hZWS477, hZRS477⟩ := hv
  have hx := B.exec
  have hb := B.bytes
  have hr := B.returns
  have hts := atoms_spec (ws := (.code yX13_typeAt cX13_typeAt 5 (some .int) :: VS_h9)) B.pre
  replace hts := fun w (h : w ∈ VS_h9) => hts w (List.mem_cons_of_mem _ h)
  have hown : s.vm.findClass RX13 = some m.cls := findClass_of_methodNamed B.named
  have hlocks := B.notSynchronized
  subst hsz
  have hD := hD0.self (sz := s.heap.size)
  generalize hAe : va_A [(h0, .inr (13, zs)), (qf100, .inl (cf100, 48000, .inl f100)), (qf104, .inl (cf104, 8, .inl f104)), (qf102, .inl (cf102, 2048, .inl f102)), (qf118, .inl (cf118, 2100, .inl f118)), (qf119, .inl (cf119, 2100, .inl f119))] s.heap.size = A at hD hZWS477 ⊢
  have hA : ∀ q : Nat, s.heap.size ≤ q → A q := fun q h => by rw [← hAe]; exact Or.inr h
  have hP : va_P (dC, dI) vwCl [(h0, .inr (13, zs)), (qf100, .inl (cf100, 48000, .inl f100)), (qf104, .inl (cf104, 8, .inl f104)), (qf102, .inl (cf102, 2048, .inl f102)), (qf118, .inl (cf118, 2100, .inl f118)), (qf119, .inl (cf119, 2100, .inl f119))] s.heap := hP
  have hl := lv_entry ([.ref h0, .int a1]) (n := 5) (Nat.le_of_ble_eq_true rfl)
  rw [lg_entry_eq]
  generalize (lg_sl ([.ref h0, .int a1]) ++ List.replicate (5 - (lg_sl ([.ref h0, .int a1])).length) Slot.unset).toArray = ls at hl ⊢
  have hl : lv_has ls 5 [(0, .ref h0), (1, .int a1)] := hl
  obtain ⟨H, hH⟩ : ∃ H : Heap, s.heap = H := ⟨_, rfl⟩
  rw [hH] at hP ⊢
  have hS : va_S A s.heap H [] := by rw [← hH]; exact va_S.rf
  obtain ⟨locs, hlo⟩ : ∃ locs : List Loc, locs = [] := ⟨_, rfl⟩
  rw [← hlo] at hS ⊢
  have hrs0 : ∀ j : Nat, j ≠ 117 → j ≠ 120 → zs[j]? = zs[j]? := fun _ _ _  => rfl
  unfold sp_vm_typeAt at hsp
  refine jn_use (α := Heap × List Loc × Array Slot × List Value × Int32 × Int32 × (Nat → Int32) × (Nat → Int32) × Int32 × Int32) (fun x9 => x9.1) (fun x9 => x9.2.1) (fun x9 => F0 m 49 x9.2.2.1 [.int (x9.2.2.2.2.2.1)]) (fun x9 => match x9 with | (H, locs, ls, z49, l2_49, s0_49, g118_49, g119_49, x117_49, x120_49) => lv_has ls 5 [(0, .ref h0), (2, .int l2_49)] ∧ va_S A s.heap H locs ∧ va_D A [(h0, .inr (13, z49)), (qf100, .inl (cf100, 48000, .inl f100)), (qf104, .inl (cf104, 8, .inl f104)), (qf102, .inl (cf102, 2048, .inl f102)), (qf118, .inl (cf118, 2100, .inl g118_49)), (qf119, .inl (cf119, 2100, .inl g119_49))] ∧ va_P (dC, dI) vwCl [(h0, .inr (13, z49)), (qf100, .inl (cf100, 48000, .inl f100)), (qf104, .inl (cf104, 8, .inl f104)), (qf102, .inl (cf102, 2048, .inl f102)), (qf118, .inl (cf118, 2100, .inl g118_49)), (qf119, .inl (cf119, 2100, .inl g119_49))] H ∧ z49[98]? = some (.int v98) ∧ z49[100]? = some (.ref qf100) ∧ z49[102]? = some (.ref qf102) ∧ z49[104]? = some (.ref qf104) ∧ z49[117]? = some (.int x117_49) ∧ z49[118]? = some (.ref qf118) ∧ z49[119]? = some (.ref qf119) ∧ z49[120]? = some (.int x120_49) ∧ z49.length = 155 ∧ (∀ j : Nat, j ≠ 117 → j ≠ 120 → z49[j]? = zs[j]?) ∧ jn_vm_typeAt_49 nf a1 v98 v117 f100 f104 f102 f118 f119 nS477 fS477 l2_49 s0_49 g118_49 g119_49 x117_49 x120_49 = some (r0, o118, o119, w117, w120)) ?_ ?_
  · intro x9 hJ9
    obtain ⟨H, locs, ls, z49, l2_49, s0_49, g118_49, g119_49, x117_49, x120_49⟩ := x9
    obtain ⟨hl, hS, hD, hP, hfh_49_98, hfh_49_100, hfh_49_102, hfh_49_104, hfh_49_117, hfh_49_118, hfh_49_119, hfh_49_120, hlh_49, hrh_49, hsp⟩ := hJ9
    replace hl : lv_has ls 5 [(0, .ref h0), (2, .int l2_49)] := hl
    replace hS : va_S A s.heap H locs := hS
    replace hD : va_D A [(h0, .inr (13, z49)), (qf100, .inl (cf100, 48000, .inl f100)), (qf104, .inl (cf104, 8, .inl f104)), (qf102, .inl (cf102, 2048, .inl f102)), (qf118, .inl (cf118, 2100, .inl g118_49)), (qf119, .inl (cf119, 2100, .inl g119_49))] := hD
    replace hP : va_P (dC, dI) vwCl [(h0, .inr (13, z49)), (qf100, .inl (cf100, 48000, .inl f100)), (qf104, .inl (cf104, 8, .inl f104)), (qf102, .inl (cf102, 2048, .inl f102)), (qf118, .inl (cf118, 2100, .inl g118_49)), (qf119, .inl (cf119, 2100, .inl g119_49))] H := hP
    replace hsp : jn_vm_typeAt_49 nf a1 v98 v117 f100 f104 f102 f118 f119 nS477 fS477 l2_49 s0_49 g118_49 g119_49 x117_49 x120_49 = some (r0, o118, o119, w117, w120) := hsp
    show W _ _ _ _ _ _ _ _ _ _ H locs _ _ _ (F0 m 49 ls [.int s0_49])
    unfold jn_vm_typeAt_49 at hsp
    try dsimp only at hsp
    refine lv_istore_n (lv' := [(3, .int s0_49), (0, .ref h0), (2, .int l2_49)]) hx hb dX13_typeAt_49 rfl hl (by decide) rfl (fun ls hl => ?_)
    refine lv_aload_n hx hb dX13_typeAt_50 rfl (lv_at hl 1 rfl) ?_
    refine va_get (D := (dC, dI)) (ci := 13) (v := .ref qf100) (C := RX13) (T := TX13) (N := 155) hx hb hts uV_h9_X13 hown hK hP 0 rfl rfl 100 (by decide) (hts (.fieldLink RX13 209 "ClassMillModel" "bytes" "[I") mw_h9_266) (fun _ h9 => h9) hfh_49_100 dX13_typeAt_51 ?_
    refine lv_iload_n hx hb dX13_typeAt_54 rfl (lv_at hl 0 rfl) ?_
    obtain ⟨hi_8, hsp⟩ := ox_in hsp
    refine va_iald hx hb hK hP 1 0 rfl rfl (i := s0_49) hi_8 dX13_typeAt_55 ?_
    refine lv_bipush (v := 73) hx hb dX13_typeAt_56 (by decide) ?_
    refine lv_icmp_ne (tgt := 70) hx hb dX13_typeAt_58 (by decide) (fun c_9 => ?_) (fun c_9 => ?_)
    · rw [if_neg c_9] at hsp
      refine lv_iload_n hx hb dX13_typeAt_70 rfl (lv_at hl 0 rfl) ?_
      refine lv_iconst (v := 1) hx hb dX13_typeAt_71 (by decide) ?_
      refine lv_iadd hx hb dX13_typeAt_72 ?_
      refine lv_istore (lv' := [(4, .int (s0_49 + 1)), (3, .int s0_49), (0, .ref h0), (2, .int l2_49)]) hx hb dX13_typeAt_73 hl (by decide) rfl (fun ls hl => ?_)
      replace hl : lv_has ls 5 [(4, .int (s0_49 + 1)), (3, .int s0_49), (0, .ref h0), (2, .int l2_49)] := lv_sub hl [0, 1, 2, 3] rfl
      replace hP := hP.sub (ws' := [(h0, .inr (13, z49)), (qf100, .inl (cf100, 48000, .inl f100)), (qf104, .inl (cf104, 8, .inl f104)), (qf102, .inl (cf102, 2048, .inl f102)), (qf118, .inl (cf118, 2100, .inl g118_49)), (qf119, .inl (cf119, 2100, .inl g119_49))]) [0, 1, 2, 3, 4, 5] rfl
      replace hD := hD.sub (ws' := [(h0, .inr (13, z49)), (qf100, .inl (cf100, 48000, .inl f100)), (qf104, .inl (cf104, 8, .inl f104)), (qf102, .inl (cf102, 2048, .inl f102)), (qf118, .inl (cf118, 2100, .inl g118_49)), (qf119, .inl (cf119, 2100, .inl g119_49))]) [0, 1, 2, 3, 4, 5] (by decide) rfl
      replace hK := hK.sub (tys' := [(cf100, .int), (cf104, .int), (cf102, .int), (cf118, .int), (cf119, .int)]) [0, 1, 2, 3, 4] rfl
      obtain ⟨n_75, hn_75⟩ : ∃ z : Nat, z = nf := ⟨_, rfl⟩
      obtain ⟨l2_75, el2_75⟩ : ∃ z : Int32, z = l2_49 := ⟨_, rfl⟩
      obtain ⟨l3_75, el3_75⟩ : ∃ z : Int32, z = s0_49 := ⟨_, rfl⟩
      obtain ⟨l4_75, el4_75⟩ : ∃ z : Int32, z = (s0_49 + 1) := ⟨_, rfl⟩
      obtain ⟨g118_75, eg118_75⟩ : ∃ z : Nat → Int32, z = g118_49 := ⟨_, rfl⟩
      obtain ⟨g119_75, eg119_75⟩ : ∃ z : Nat → Int32, z = g119_49 := ⟨_, rfl⟩
      obtain ⟨x117_75, ex117_75⟩ : ∃ z : Int32, z = x117_49 := ⟨_, rfl⟩
      obtain ⟨x120_75, ex120_75⟩ : ∃ z : Int32, z = x120_49 := ⟨_, rfl⟩
      replace hsp : lp_vm_typeAt_75 nf n_75 a1 v98 v117 f100 f104 f102 f118 f119 nS477 fS477 l2_75 l3_75 l4_75 g118_75 g119_75 x117_75 x120_75 = some (r0, o118, o119, w117, w120) := by rw [hn_75, el2_75, el3_75, el4_75, eg118_75, eg119_75, ex117_75, ex120_75]; exact hsp
      replace hl : lv_has ls 5 [(4, .int l4_75), (3, .int l3_75), (0, .ref h0), (2, .int l2_75)] := by rw [el2_75, el3_75, el4_75]; exact hl
      obtain ⟨z75, ez75⟩ : ∃ z : List Value, z = z49 := ⟨_, rfl⟩
      have hfh_75_98 : z75[98]? = some (.int v98) := by rw [ez75]; exact hfh_49_98
      have hfh_75_100 : z75[100]? = some (.ref qf100) := by rw [ez75]; exact hfh_49_100
      have hfh_75_102 : z75[102]? = some (.ref qf102) := by rw [ez75]; exact hfh_49_102
      have hfh_75_104 : z75[104]? = some (.ref qf104) := by rw [ez75]; exact hfh_49_104
      have hfh_75_117 : z75[117]? = some (.int x117_75) := by rw [ez75, ex117_75]; exact hfh_49_117
      have hfh_75_118 : z75[118]? = some (.ref qf118) := by rw [ez75]; exact hfh_49_118
      have hfh_75_119 : z75[119]? = some (.ref qf119) := by rw [ez75]; exact hfh_49_119
      have hfh_75_120 : z75[120]? = some (.int x120_75) := by rw [ez75, ex120_75]; exact hfh_49_120
      have hlh_75 : z75.length = 155 := by rw [ez75]; exact hlh_49
      have hrh_75 : ∀ j : Nat, j ≠ 117 → j ≠ 120 → z75[j]? = zs[j]? := by rw [ez75]; exact hrh_49
      replace hP : va_P (dC, dI) vwCl [(h0, .inr (13, z75)), (qf100, .inl (cf100, 48000, .inl f100)), (qf104, .inl (cf104, 8, .inl f104)), (qf102, .inl (cf102, 2048, .inl f102)), (qf118, .inl (cf118, 2100, .inl g118_75)), (qf119, .inl (cf119, 2100, .inl g119_75))] H := by rw [ez75, eg118_75, eg119_75]; exact hP
      replace hD : va_D A [(h0, .inr (13, z75)), (qf100, .inl (cf100, 48000, .inl f100)), (qf104, .inl (cf104, 8, .inl f104)), (qf102, .inl (cf102, 2048, .inl f102)), (qf118, .inl (cf118, 2100, .inl g118_75)), (qf119, .inl (cf119, 2100, .inl g119_75))] := by rw [ez75, eg118_75, eg119_75]; exact hD
      clear hn_75 ez75 el2_75 el3_75 el4_75 eg118_75 eg119_75 ex117_75 ex120_75
      try clear hlo
      try clear hH
      revert hsp
      revert hP
      revert hD
      revert hS
      revert hl
      revert hrh_75
      revert hlh_75
      revert hfh_75_120
      revert hfh_75_119
      revert hfh_75_118
      revert hfh_75_117
      revert hfh_75_104
      revert hfh_75_102
      revert hfh_75_100
      revert hfh_75_98
      revert x120_75
      revert x117_75
      revert g119_75
      revert g118_75
      revert l4_75
      revert l3_75
      revert l2_75
      revert z75
      revert ls
      revert locs
      revert H
      induction n_75 with
      | zero => intro H locs ls z75 l2_75 l3_75 l4_75 g118_75 g119_75 x117_75 x120_75 hfh_75_98 hfh_75_100 hfh_75_102 hfh_75_104 hfh_75_117 hfh_75_118 hfh_75_119 hfh_75_120 hlh_75 hrh_75 hl hS hD hP hsp; unfold lp_vm_typeAt_75 at hsp; cases hsp
      | succ n_75 ih_75 =>
        intro H locs ls z75 l2_75 l3_75 l4_75 g118_75 g119_75 x117_75 x120_75 hfh_75_98 hfh_75_100 hfh_75_102 hfh_75_104 hfh_75_117 hfh_75_118 hfh_75_119 hfh_75_120 hlh_75 hrh_75 hl hS hD hP hsp
        unfold lp_vm_typeAt_75 at hsp
        try dsimp only at hsp
        refine lv_aload_n hx hb dX13_typeAt_75 rfl (lv_at hl 2 rfl) ?_
        refine va_get (D := (dC, dI)) (ci := 13) (v := .ref qf100) (C := RX13) (T := TX13) (N := 155) hx hb hts uV_h9_X13 hown hK hP 0 rfl rfl 100 (by decide) (hts (.fieldLink RX13 209 "ClassMillModel" "bytes" "[I") mw_h9_266) (fun _ h9 => h9) hfh_75_100 dX13_typeAt_76 ?_
        refine lv_iload hx hb dX13_typeAt_79 (lv_at hl 0 rfl) ?_
        obtain ⟨hi_10, hsp⟩ := ox_in hsp
        refine va_iald hx hb hK hP 1 0 rfl rfl (i := l4_75) hi_10 dX13_typeAt_81 ?_
        refine lv_bipush (v := 59) hx hb dX13_typeAt_82 (by decide) ?_
        refine lv_icmp_eq (tgt := 93) hx hb dX13_typeAt_84 (by decide) (fun c_11 => ?_) (fun c_11 => ?_)
        · rw [if_pos c_11] at hsp
          refine lv_aload_n hx hb dX13_typeAt_93 rfl (lv_at hl 2 rfl) ?_
          refine lv_iload hx hb dX13_typeAt_94 (lv_at hl 0 rfl) ?_
          refine lv_iconst (v := 1) hx hb dX13_typeAt_96 (by decide) ?_
          refine lv_iadd hx hb dX13_typeAt_97 ?_
          refine va_put (D := (dC, dI)) (ci := 13) (v := .int (l4_75 + 1)) (ty := .int) (C := RX13) (T := TX13) (N := 155) hx hb hts uV_h9_X13 tyX13 tyX13_ok nmX13 hown hK hP hD hS 0 rfl rfl 120 (by decide) (hts (.fieldLink RX13 879 "ClassMillModel" "kindEnd" "I") mw_h9_496) (fun _ h9 => h9) rfl (by decide +kernel) rfl rfl (by rw [hlh_75]; decide) dX13_typeAt_98 ?_
          clear hP hD hS
          intro H locs hP hD hS
          obtain ⟨fs_12, efs_12⟩ : ∃ zf : List Value, zf = z75.set 120 (.int (l4_75 + 1)) := ⟨_, rfl⟩
          rw [← efs_12] at hP hD
          have hlfs_12 : fs_12.length = 155 := by rw [efs_12, List.length_set]; exact hlh_75
          have hfs_12_98 : fs_12[98]? = some (.int v98) := by rw [efs_12, List.getElem?_set_ne (by decide)]; exact hfh_75_98
          have hfs_12_100 : fs_12[100]? = some (.ref qf100) := by rw [efs_12, List.getElem?_set_ne (by decide)]; exact hfh_75_100
          have hfs_12_102 : fs_12[102]? = some (.ref qf102) := by rw [efs_12, List.getElem?_set_ne (by decide)]; exact hfh_75_102
          have hfs_12_104 : fs_12[104]? = some (.ref qf104) := by rw [efs_12, List.getElem?_set_ne (by decide)]; exact hfh_75_104
          have hfs_12_117 : fs_12[117]? = some (.int x117_75) := by rw [efs_12, List.getElem?_set_ne (by decide)]; exact hfh_75_117
          have hfs_12_118 : fs_12[118]? = some (.ref qf118) := by rw [efs_12, List.getElem?_set_ne (by decide)]; exact hfh_75_118
          have hfs_12_119 : fs_12[119]? = some (.ref qf119) := by rw [efs_12, List.getElem?_set_ne (by decide)]; exact hfh_75_119
          have hfs_12_120 : fs_12[120]? = some (.int (l4_75 + 1)) := by rw [efs_12, List.getElem?_set_self (by rw [hlh_75]; decide)]
          replace hP : va_P (dC, dI) vwCl [(h0, .inr (13, fs_12)), (qf100, .inl (cf100, 48000, .inl f100)), (qf104, .inl (cf104, 8, .inl f104)), (qf102, .inl (cf102, 2048, .inl f102)), (qf118, .inl (cf118, 2100, .inl g118_75)), (qf119, .inl (cf119, 2100, .inl g119_75))] H := hP
          replace hD : va_D A [(h0, .inr (13, fs_12)), (qf100, .inl (cf100, 48000, .inl f100)), (qf104, .inl (cf104, 8, .inl f104)), (qf102, .inl (cf102, 2048, .inl f102)), (qf118, .inl (cf118, 2100, .inl g118_75)), (qf119, .inl (cf119, 2100, .inl g119_75))] := hD
          have hrs_13 : ∀ j : Nat, j ≠ 117 → j ≠ 120 → fs_12[j]? = zs[j]? := fun j g117 g120 => ((congrArg (fun z : List Value => z[j]?) efs_12).trans (List.getElem?_set_ne (Ne.symm g120))).trans (hrh_75 j g117 g120)
          refine lv_iconst (v := 4) hx hb dX13_typeAt_101 (by decide) ?_
          refine lv_iconst (v := 2) hx hb dX13_typeAt_102 (by decide) ?_
          refine lv_aload_n hx hb dX13_typeAt_103 rfl (lv_at hl 2 rfl) ?_
          refine lv_iload_n hx hb dX13_typeAt_104 rfl (lv_at hl 1 rfl) ?_
          refine lv_iconst (v := 1) hx hb dX13_typeAt_105 (by decide) ?_
          refine lv_iadd hx hb dX13_typeAt_106 ?_
          refine lv_iload hx hb dX13_typeAt_107 (lv_at hl 0 rfl) ?_
          refine lv_iload_n hx hb dX13_typeAt_109 rfl (lv_at hl 1 rfl) ?_
          refine lv_isub hx hb dX13_typeAt_110 ?_
          refine lv_iconst (v := 1) hx hb dX13_typeAt_111 (by decide) ?_
          refine lv_isub hx hb dX13_typeAt_112 ?_
          obtain ⟨⟨u1_0, g901_1, g901_2, u1_3⟩, hu_1, hsp⟩ := ox_bind hsp
          try dsimp only at hsp
          have hPc := hP.sub (ws' := [(h0, .inr (13, fs_12)), (qf104, .inl (cf104, 8, .inl f104)), (qf102, .inl (cf102, 2048, .inl f102)), (qf100, .inl (cf100, 48000, .inl f100)), (qf118, .inl (cf118, 2100, .inl g118_75)), (qf119, .inl (cf119, 2100, .inl g119_75))]) [0, 2, 3, 1, 4, 5] rfl
          have hDc := hD.sub (ws' := [(h0, .inr (13, fs_12)), (qf104, .inl (cf104, 8, .inl f104)), (qf102, .inl (cf102, 2048, .inl f102)), (qf100, .inl (cf100, 48000, .inl f100)), (qf118, .inl (cf118, 2100, .inl g118_75)), (qf119, .inl (cf119, 2100, .inl g119_75))]) [0, 2, 3, 1, 4, 5] (by decide) rfl
          have hKc := hK.sub (tys' := [(cf104, .int), (cf102, .int), (cf100, .int), (cf118, .int), (cf119, .int)]) [1, 2, 0, 3, 4] rfl
          have hFc := va_free (wc := [(h0, .inr (13, fs_12)), (qf104, .inl (cf104, 8, .inl f104)), (qf102, .inl (cf102, 2048, .inl f102)), (qf100, .inl (cf100, 48000, .inl f100)), (qf118, .inl (cf118, 2100, .inl g118_75)), (qf119, .inl (cf119, 2100, .inl g119_75))]) hD hS hA [0, 2, 3, 1, 4, 5] rfl
          refine va_calli (va_runV (As := [.int (l3_75 + 1), .int ((l4_75 - l3_75) - 1)]) (rest := [.int 2, .int 4]) ⟨hx, hb, hml, hown, hts⟩ (vm_nameNumber l dC dI H.size h0 fs_12 ((l3_75 + 1)) (((l4_75 - l3_75) - 1)) v98 qf100 qf102 qf104 x117_75 qf118 qf119 cf104 f104 cf102 f102 cf100 f100 cf118 g118_75 cf119 g119_75 nS477 fS477 hS477 qS477 tS477 nf u1_0 g901_1 g901_2 u1_3 hlfs_12 hfs_12_98 hfs_12_100 hfs_12_102 hfs_12_104 hfs_12_117 hfs_12_118 hfs_12_119 hu_1) (cwV 2 hts gv_h9_99 rfl rfl rfl (by decide +kernel) ⟨Nat.le_of_ble_eq_true rfl, Nat.le_of_ble_eq_true rfl⟩) ⟨fun a U g mk q => by obtain ⟨q0, q1, qP, qK, qD, qhZWS477, qhZRS477⟩ := q; exact ⟨q0, q1, qP, va_K.moved (u := U) (U := U.calling g mk a) (Vm.Alike.refl U.vm) qK, qD, pz_W.moved (u := U) (U := U.calling g mk a) (Vm.Alike.refl U.vm) qhZWS477, vk_R.same rfl qhZRS477⟩, va_recv hKc hPc (ci := 13) (q0 := 0) rfl rfl, fun U hU hW => ⟨rfl, by rw [hU], by rw [hU]; exact hPc, va_K.moved hW.alike hKc, hDc.weaken (fun _ _ _ _ => trivial), by rw [hU]; exact ((pz_W.moved hW.alike hZWS477).kept hS.2.1).narrow hFc, vk_R.warm hW hZRS477⟩⟩ rfl rfl hl.1 rfl (lv_room (Nat.le_of_ble_eq_true rfl)) dX13_typeAt_113 ⟨Nat.le_of_ble_eq_true rfl, Nat.le_of_ble_eq_true rfl⟩) hS (fun q _ h => hFc q h) hFc ?_
          clear hS
          intro r_14 u t H1 locs ht hvm hw hB hz1 hk1 hS
          obtain ⟨z_1, rfl⟩ : ∃ z, z = u := ⟨_, rfl⟩
          obtain ⟨hP1, hK1, hD1⟩ := hB
          rw [ht] at hP1
          have hK1 := va_K.moved hvm.symm hK1
          try dsimp only at hw
          have hPD := va_join (wr := []) (w1 := [(h0, .inr (13, z_1)), (qf104, .inl (cf104, 8, .inl f104)), (qf102, .inl (cf102, 2048, .inl f102)), (qf100, .inl (cf100, 48000, .inl f100)), (qf118, .inl (cf118, 2100, .inl g901_1)), (qf119, .inl (cf119, 2100, .inl g901_2))]) hP hD [0, 2, 3, 1, 4, 5] [] rfl rfl (by decide) (by decide) hk1 hFc hP1 hD1
          clear hP hD
          obtain ⟨hP, hD⟩ := hPD
          replace hK := (hK.sub (tys' := []) [] rfl).app hK1
          clear hPc hDc hKc hFc hP1 hK1 hD1 hz1 hk1 ht hvm
          generalize H1 = H at hP hS ⊢
          replace hP : va_P (dC, dI) vwCl [(h0, .inr (13, z_1)), (qf104, .inl (cf104, 8, .inl f104)), (qf102, .inl (cf102, 2048, .inl f102)), (qf100, .inl (cf100, 48000, .inl f100)), (qf118, .inl (cf118, 2100, .inl g901_1)), (qf119, .inl (cf119, 2100, .inl g901_2))] H := hP
          replace hD : va_D A [(h0, .inr (13, z_1)), (qf104, .inl (cf104, 8, .inl f104)), (qf102, .inl (cf102, 2048, .inl f102)), (qf100, .inl (cf100, 48000, .inl f100)), (qf118, .inl (cf118, 2100, .inl g901_1)), (qf119, .inl (cf119, 2100, .inl g901_2))] := hD
          replace hK : va_K (dC, dI) vwCl [(cf104, .int), (cf102, .int), (cf100, .int), (cf118, .int), (cf119, .int)] s := hK
          obtain ⟨hwa_1, hln_1, hre_1, hch_1_117⟩ := hw
          have hfk_1_98 : z_1[98]? = some (.int v98) := (hre_1 98 (by decide)).trans (hfs_12_98)
          have hfk_1_100 : z_1[100]? = some (.ref qf100) := (hre_1 100 (by decide)).trans (hfs_12_100)
          have hfk_1_102 : z_1[102]? = some (.ref qf102) := (hre_1 102 (by decide)).trans (hfs_12_102)
          have hfk_1_104 : z_1[104]? = some (.ref qf104) := (hre_1 104 (by decide)).trans (hfs_12_104)
          have hfk_1_118 : z_1[118]? = some (.ref qf118) := (hre_1 118 (by decide)).trans (hfs_12_118)
          have hfk_1_119 : z_1[119]? = some (.ref qf119) := (hre_1 119 (by decide)).trans (hfs_12_119)
          have hfk_1_120 : z_1[120]? = some (.int (l4_75 + 1)) := (hre_1 120 (by decide)).trans (hfs_12_120)
          have hrq_1 : ∀ j : Nat, j ≠ 117 → j ≠ 120 → z_1[j]? = zs[j]? := fun j g117 g120 => (hre_1 j g117).trans (hrs_13 j g117 g120)
          obtain rfl := hwa_1
          refine lv_imul hx hb dX13_typeAt_116 ?_
          refine lv_iadd hx hb dX13_typeAt_117 ?_
          refine lv_iload_n hx hb dX13_typeAt_118 rfl (lv_at hl 3 rfl) ?_
          refine lv_bipush (v := 91) hx hb dX13_typeAt_119 (by decide) ?_
          refine lv_icmp_ne (tgt := 128) hx hb dX13_typeAt_121 (by decide) (fun c_15 => ?_) (fun c_15 => ?_)
          · rw [if_neg c_15] at hsp
            refine lv_iconst (v := 0) hx hb dX13_typeAt_128 (by decide) ?_
            refine lv_iadd hx hb dX13_typeAt_129 ?_
            have hr0 := Option.some.inj hsp
            clear hsp
            obtain ⟨hq0, hr1⟩ := Prod.mk.inj hr0
            clear hr0
            obtain ⟨hq1, hr2⟩ := Prod.mk.inj hr1
            clear hr1
            obtain ⟨hq2, hr3⟩ := Prod.mk.inj hr2
            clear hr2
            obtain ⟨hq3, hr4⟩ := Prod.mk.inj hr3
            clear hr3
            subst hq0
            subst hq1
            subst hq2
            subst hq3
            subst hr4
            have hP9 := hP.sub (ws' := [(h0, .inr (13, z_1)), (qf100, .inl (cf100, 48000, .inl f100)), (qf104, .inl (cf104, 8, .inl f104)), (qf102, .inl (cf102, 2048, .inl f102)), (qf118, .inl (cf118, 2100, .inl g901_1)), (qf119, .inl (cf119, 2100, .inl g901_2))]) [0, 3, 1, 2, 4, 5] rfl
            have hD9 := hD.sub (ws' := [(h0, .inr (13, z_1)), (qf100, .inl (cf100, 48000, .inl f100)), (qf104, .inl (cf104, 8, .inl f104)), (qf102, .inl (cf102, 2048, .inl f102)), (qf118, .inl (cf118, 2100, .inl g901_1)), (qf119, .inl (cf119, 2100, .inl g901_2))]) [0, 3, 1, 2, 4, 5] (by decide) rfl
            have hK9 := hK.sub (tys' := [(cf100, .int), (cf104, .int), (cf102, .int), (cf118, .int), (cf119, .int)]) [2, 0, 1, 3, 4] rfl
            exact W.iret hx hb hr (fun t ht hW => ⟨⟨(((4 + (2 * u1_0)) + 0)), (z_1), rfl, ⟨rfl, hln_1, hrq_1, hch_1_117, hfk_1_120⟩, by rw [ht]; exact hP9, va_K.moved hW.alike hK9, hD9⟩, hS.F ht⟩) hS.2.2 dX13_typeAt_130
          · rw [if_pos c_15] at hsp
            refine lv_iconst (v := 1) hx hb dX13_typeAt_124 (by decide) ?_
            refine lv_goto (tgt := 129) hx hb dX13_typeAt_125 (by decide) ?_
            refine lv_iadd hx hb dX13_typeAt_129 ?_
            have hr0 := Option.some.inj hsp
            clear hsp
            obtain ⟨hq0, hr1⟩ := Prod.mk.inj hr0
            clear hr0
            obtain ⟨hq1, hr2⟩ := Prod.mk.inj hr1
            clear hr1
            obtain ⟨hq2, hr3⟩ := Prod.mk.inj hr2
            clear hr2
            obtain ⟨hq3, hr4⟩ := Prod.mk.inj hr3
            clear hr3
            subst hq0
            subst hq1
            subst hq2
            subst hq3
            subst hr4
            have hP9 := hP.sub (ws' := [(h0, .inr (13, z_1)), (qf100, .inl (cf100, 48000, .inl f100)), (qf104, .inl (cf104, 8, .inl f104)), (qf102, .inl (cf102, 2048, .inl f102)), (qf118, .inl (cf118, 2100, .inl g901_1)), (qf119, .inl (cf119, 2100, .inl g901_2))]) [0, 3, 1, 2, 4, 5] rfl
            have hD9 := hD.sub (ws' := [(h0, .inr (13, z_1)), (qf100, .inl (cf100, 48000, .inl f100)), (qf104, .inl (cf104, 8, .inl f104)), (qf102, .inl (cf102, 2048, .inl f102)), (qf118, .inl (cf118, 2100, .inl g901_1)), (qf119, .inl (cf119, 2100, .inl g901_2))]) [0, 3, 1, 2, 4, 5] (by decide) rfl
            have hK9 := hK.sub (tys' := [(cf100, .int), (cf104, .int), (cf102, .int), (cf118, .int), (cf119, .int)]) [2, 0, 1, 3, 4] rfl
            exact W.iret hx hb hr (fun t ht hW => ⟨⟨(((4 + (2 * u1_0)) + 1)), (z_1), rfl, ⟨rfl, hln_1, hrq_1, hch_1_117, hfk_1_120⟩, by rw [ht]; exact hP9, va_K.moved hW.alike hK9, hD9⟩, hS.F ht⟩) hS.2.2 dX13_typeAt_130
        · rw [if_neg c_11] at hsp
          refine lv_iinc (v := (l4_75 + 1)) (lv' := [(4, .int (l4_75 + 1)), (3, .int l3_75), (0, .ref h0), (2, .int l2_75)]) hx hb dX13_typeAt_87 hl (k := 0) rfl rfl (by decide) rfl (fun ls hl => ?_)
          refine lv_goto (tgt := 75) hx hb dX13_typeAt_90 (by decide) ?_
          exact ih_75 H locs ls z75 l2_75 l3_75 (l4_75 + 1) g118_75 g119_75 x117_75 x120_75 (hfh_75_98) (hfh_75_100) (hfh_75_102) (hfh_75_104) (hfh_75_117) (hfh_75_118) (hfh_75_119) (hfh_75_120) hlh_75 hrh_75 (lv_sub hl [0, 1, 2, 3] rfl) hS (hD.sub (ws' := [(h0, .inr (13, z75)), (qf100, .inl (cf100, 48000, .inl f100)), (qf104, .inl (cf104, 8, .inl f104)), (qf102, .inl (cf102, 2048, .inl f102)), (qf118, .inl (cf118, 2100, .inl g118_75)), (qf119, .inl (cf119, 2100, .inl g119_75))]) [0, 1, 2, 3, 4, 5] (by decide) rfl) (hP.sub (ws' := [(h0, .inr (13, z75)), (qf100, .inl (cf100, 48000, .inl f100)), (qf104, .inl (cf104, 8, .inl f104)), (qf102, .inl (cf102, 2048, .inl f102)), (qf118, .inl (cf118, 2100, .inl g118_75)), (qf119, .inl (cf119, 2100, .inl g119_75))]) [0, 1, 2, 3, 4, 5] rfl) hsp
    · rw [if_pos c_9] at hsp
      refine lv_aload_n hx hb dX13_typeAt_61 rfl (lv_at hl 1 rfl) ?_
      refine lv_iload_n hx hb dX13_typeAt_62 rfl (lv_at hl 0 rfl) ?_
      refine lv_iconst (v := 1) hx hb dX13_typeAt_63 (by decide) ?_
      refine lv_iadd hx hb dX13_typeAt_64 ?_
      refine va_put (D := (dC, dI)) (ci := 13) (v := .int (s0_49 + 1)) (ty := .int) (C := RX13) (T := TX13) (N := 155) hx hb hts uV_h9_X13 tyX13 tyX13_ok nmX13 hown hK hP hD hS 0 rfl rfl 120 (by decide) (hts (.fieldLink RX13 879 "ClassMillModel" "kindEnd" "I") mw_h9_496) (fun _ h9 => h9) rfl (by decide +kernel) rfl rfl (by rw [hlh_49]; decide) dX13_typeAt_65 ?_
      clear hP hD hS
      intro H locs hP hD hS
      obtain ⟨fs_16, efs_16⟩ : ∃ zf : List Value, zf = z49.set 120 (.int (s0_49 + 1)) := ⟨_, rfl⟩
      rw [← efs_16] at hP hD
      have hlfs_16 : fs_16.length = 155 := by rw [efs_16, List.length_set]; exact hlh_49
      have hfs_16_98 : fs_16[98]? = some (.int v98) := by rw [efs_16, List.getElem?_set_ne (by decide)]; exact hfh_49_98
      have hfs_16_100 : fs_16[100]? = some (.ref qf100) := by rw [efs_16, List.getElem?_set_ne (by decide)]; exact hfh_49_100
      have hfs_16_102 : fs_16[102]? = some (.ref qf102) := by rw [efs_16, List.getElem?_set_ne (by decide)]; exact hfh_49_102
      have hfs_16_104 : fs_16[104]? = some (.ref qf104) := by rw [efs_16, List.getElem?_set_ne (by decide)]; exact hfh_49_104
      have hfs_16_117 : fs_16[117]? = some (.int x117_49) := by rw [efs_16, List.getElem?_set_ne (by decide)]; exact hfh_49_117
      have hfs_16_118 : fs_16[118]? = some (.ref qf118) := by rw [efs_16, List.getElem?_set_ne (by decide)]; exact hfh_49_118
      have hfs_16_119 : fs_16[119]? = some (.ref qf119) := by rw [efs_16, List.getElem?_set_ne (by decide)]; exact hfh_49_119
      have hfs_16_120 : fs_16[120]? = some (.int (s0_49 + 1)) := by rw [efs_16, List.getElem?_set_self (by rw [hlh_49]; decide)]
      replace hP : va_P (dC, dI) vwCl [(h0, .inr (13, fs_16)), (qf100, .inl (cf100, 48000, .inl f100)), (qf104, .inl (cf104, 8, .inl f104)), (qf102, .inl (cf102, 2048, .inl f102)), (qf118, .inl (cf118, 2100, .inl g118_49)), (qf119, .inl (cf119, 2100, .inl g119_49))] H := hP
      replace hD : va_D A [(h0, .inr (13, fs_16)), (qf100, .inl (cf100, 48000, .inl f100)), (qf104, .inl (cf104, 8, .inl f104)), (qf102, .inl (cf102, 2048, .inl f102)), (qf118, .inl (cf118, 2100, .inl g118_49)), (qf119, .inl (cf119, 2100, .inl g119_49))] := hD
      have hrs_17 : ∀ j : Nat, j ≠ 117 → j ≠ 120 → fs_16[j]? = zs[j]? := fun j g117 g120 => ((congrArg (fun z : List Value => z[j]?) efs_16).trans (List.getElem?_set_ne (Ne.symm g120))).trans (hrh_49 j g117 g120)
      refine lv_iconst (v := 3) hx hb dX13_typeAt_68 (by decide) ?_
      have hr0 := Option.some.inj hsp
      clear hsp
      obtain ⟨hq0, hr1⟩ := Prod.mk.inj hr0
      clear hr0
      obtain ⟨hq1, hr2⟩ := Prod.mk.inj hr1
      clear hr1
      obtain ⟨hq2, hr3⟩ := Prod.mk.inj hr2
      clear hr2
      obtain ⟨hq3, hr4⟩ := Prod.mk.inj hr3
      clear hr3
      subst hq0
      subst hq1
      subst hq2
      subst hq3
      subst hr4
      have hP9 := hP.sub (ws' := [(h0, .inr (13, fs_16)), (qf100, .inl (cf100, 48000, .inl f100)), (qf104, .inl (cf104, 8, .inl f104)), (qf102, .inl (cf102, 2048, .inl f102)), (qf118, .inl (cf118, 2100, .inl g118_49)), (qf119, .inl (cf119, 2100, .inl g119_49))]) [0, 1, 2, 3, 4, 5] rfl
      have hD9 := hD.sub (ws' := [(h0, .inr (13, fs_16)), (qf100, .inl (cf100, 48000, .inl f100)), (qf104, .inl (cf104, 8, .inl f104)), (qf102, .inl (cf102, 2048, .inl f102)), (qf118, .inl (cf118, 2100, .inl g118_49)), (qf119, .inl (cf119, 2100, .inl g119_49))]) [0, 1, 2, 3, 4, 5] (by decide) rfl
      have hK9 := hK.sub (tys' := [(cf100, .int), (cf104, .int), (cf102, .int), (cf118, .int), (cf119, .int)]) [0, 1, 2, 3, 4] rfl
      exact W.iret hx hb hr (fun t ht hW => ⟨⟨(3), (fs_16), rfl, ⟨rfl, hlfs_16, hrs_17, hfs_16_117, hfs_16_120⟩, by rw [ht]; exact hP9, va_K.moved hW.alike hK9, hD9⟩, hS.F ht⟩) hS.2.2 dX13_typeAt_69
  intro hj_49
  refine lv_aload_n hx hb dX13_typeAt_0 rfl (lv_at hl 0 rfl) ?_
  refine va_get (D := (dC, dI)) (ci := 13) (v := .ref qf100) (C := RX13) (T := TX13) (N := 155) hx hb hts uV_h9_X13 hown hK hP 0 rfl rfl 100 (by decide) (hts (.fieldLink RX13 209 "ClassMillModel" "bytes" "[I") mw_h9_266) (fun _ h9 => h9) hf100 dX13_typeAt_1 ?_
  refine lv_iload_n hx hb dX13_typeAt_4 rfl (lv_at hl 1 rfl) ?_
  obtain ⟨hi_1, hsp⟩ := ox_in hsp
  refine va_iald hx hb hK hP 1 0 rfl rfl (i := a1) hi_1 dX13_typeAt_5 ?_
  refine lv_istore_n (lv' := [(2, .int (f100 (a1 : Int32).toNatClampNeg)), (0, .ref h0), (1, .int a1)]) hx hb dX13_typeAt_6 rfl hl (by decide) rfl (fun ls hl => ?_)
  refine lv_aload_n hx hb dX13_typeAt_7 rfl (lv_at hl 1 rfl) ?_
  refine lv_iload_n hx hb dX13_typeAt_8 rfl (lv_at hl 2 rfl) ?_
  refine lv_iconst (v := 1) hx hb dX13_typeAt_9 (by decide) ?_
  refine lv_iadd hx hb dX13_typeAt_10 ?_
  refine va_put (D := (dC, dI)) (ci := 13) (v := .int (a1 + 1)) (ty := .int) (C := RX13) (T := TX13) (N := 155) hx hb hts uV_h9_X13 tyX13 tyX13_ok nmX13 hown hK hP hD hS 0 rfl rfl 120 (by decide) (hts (.fieldLink RX13 879 "ClassMillModel" "kindEnd" "I") mw_h9_496) (fun _ h9 => h9) rfl (by decide +kernel) rfl rfl (by rw [hlen]; decide) dX13_typeAt_11 ?_
  clear hP hD hS
  intro H locs hP hD hS
  obtain ⟨fs_2, efs_2⟩ : ∃ zf : List Value, zf = zs.set 120 (.int (a1 + 1)) := ⟨_, rfl⟩
  rw [← efs_2] at hP hD
  have hlfs_2 : fs_2.length = 155 := by rw [efs_2, List.length_set]; exact hlen
  have hfs_2_98 : fs_2[98]? = some (.int v98) := by rw [efs_2, List.getElem?_set_ne (by decide)]; exact hf98
  have hfs_2_100 : fs_2[100]? = some (.ref qf100) := by rw [efs_2, List.getElem?_set_ne (by decide)]; exact hf100
  have hfs_2_102 : fs_2[102]? = some (.ref qf102) := by rw [efs_2, List.getElem?_set_ne (by decide)]; exact hf102
  have hfs_2_104 : fs_2[104]? = some (.ref qf104) := by rw [efs_2, List.getElem?_set_ne (by decide)]; exact hf104
  have hfs_2_117 : fs_2[117]? = some (.int v117) := by rw [efs_2, List.getElem?_set_ne (by decide)]; exact hf117
  have hfs_2_118 : fs_2[118]? = some (.ref qf118) := by rw [efs_2, List.getElem?_set_ne (by decide)]; exact hf118
  have hfs_2_119 : fs_2[119]? = some (.ref qf119) := by rw [efs_2, List.getElem?_set_ne (by decide)]; exact hf119
  have hfs_2_120 : fs_2[120]? = some (.int (a1 + 1)) := by rw [efs_2, List.getElem?_set_self (by rw [hlen]; decide)]
  replace hP : va_P (dC, dI) vwCl [(h0, .inr (13, fs_2)), (qf100, .inl (cf100, 48000, .inl f100)), (qf104, .inl (cf104, 8, .inl f104)), (qf102, .inl (cf102, 2048, .inl f102)), (qf118, .inl (cf118, 2100, .inl f118)), (qf119, .inl (cf119, 2100, .inl f119))] H := hP
  replace hD : va_D A [(h0, .inr (13, fs_2)), (qf100, .inl (cf100, 48000, .inl f100)), (qf104, .inl (cf104, 8, .inl f104)), (qf102, .inl (cf102, 2048, .inl f102)), (qf118, .inl (cf118, 2100, .inl f118)), (qf119, .inl (cf119, 2100, .inl f119))] := hD
  have hrs_3 : ∀ j : Nat, j ≠ 117 → j ≠ 120 → fs_2[j]? = zs[j]? := fun j g117 g120 => ((congrArg (fun z : List Value => z[j]?) efs_2).trans (List.getElem?_set_ne (Ne.symm g120))).trans (hrs0 j g117 g120)
  refine lv_iload_n hx hb dX13_typeAt_14 rfl (lv_at hl 0 rfl) ?_
  refine lv_bipush (v := 73) hx hb dX13_typeAt_15 (by decide) ?_
  refine lv_icmp_eq (tgt := 26) hx hb dX13_typeAt_17 (by decide) (fun c_4 => ?_) (fun c_4 => ?_)
  · rw [if_pos c_4] at hsp
    refine lv_iconst (v := 1) hx hb dX13_typeAt_26 (by decide) ?_
    have hr0 := Option.some.inj hsp
    clear hsp
    obtain ⟨hq0, hr1⟩ := Prod.mk.inj hr0
    clear hr0
    obtain ⟨hq1, hr2⟩ := Prod.mk.inj hr1
    clear hr1
    obtain ⟨hq2, hr3⟩ := Prod.mk.inj hr2
    clear hr2
    obtain ⟨hq3, hr4⟩ := Prod.mk.inj hr3
    clear hr3
    subst hq0
    subst hq1
    subst hq2
    subst hq3
    subst hr4
    have hP9 := hP.sub (ws' := [(h0, .inr (13, fs_2)), (qf100, .inl (cf100, 48000, .inl f100)), (qf104, .inl (cf104, 8, .inl f104)), (qf102, .inl (cf102, 2048, .inl f102)), (qf118, .inl (cf118, 2100, .inl f118)), (qf119, .inl (cf119, 2100, .inl f119))]) [0, 1, 2, 3, 4, 5] rfl
    have hD9 := hD.sub (ws' := [(h0, .inr (13, fs_2)), (qf100, .inl (cf100, 48000, .inl f100)), (qf104, .inl (cf104, 8, .inl f104)), (qf102, .inl (cf102, 2048, .inl f102)), (qf118, .inl (cf118, 2100, .inl f118)), (qf119, .inl (cf119, 2100, .inl f119))]) [0, 1, 2, 3, 4, 5] (by decide) rfl
    have hK9 := hK.sub (tys' := [(cf100, .int), (cf104, .int), (cf102, .int), (cf118, .int), (cf119, .int)]) [0, 1, 2, 3, 4] rfl
    exact W.iret hx hb hr (fun t ht hW => ⟨⟨(1), (fs_2), rfl, ⟨rfl, hlfs_2, hrs_3, hfs_2_117, hfs_2_120⟩, by rw [ht]; exact hP9, va_K.moved hW.alike hK9, hD9⟩, hS.F ht⟩) hS.2.2 dX13_typeAt_27
  · rw [if_neg c_4] at hsp
    refine lv_iload_n hx hb dX13_typeAt_20 rfl (lv_at hl 0 rfl) ?_
    refine lv_bipush (v := 90) hx hb dX13_typeAt_21 (by decide) ?_
    refine lv_icmp_ne (tgt := 28) hx hb dX13_typeAt_23 (by decide) (fun c_5 => ?_) (fun c_5 => ?_)
    · rw [if_neg c_5] at hsp
      refine lv_iload_n hx hb dX13_typeAt_28 rfl (lv_at hl 0 rfl) ?_
      refine lv_bipush (v := 86) hx hb dX13_typeAt_29 (by decide) ?_
      refine lv_icmp_ne (tgt := 36) hx hb dX13_typeAt_31 (by decide) (fun c_6 => ?_) (fun c_6 => ?_)
      · rw [if_neg c_6] at hsp
        refine lv_iload_n hx hb dX13_typeAt_36 rfl (lv_at hl 0 rfl) ?_
        refine lv_bipush (v := 91) hx hb dX13_typeAt_37 (by decide) ?_
        refine lv_icmp_ne (tgt := 48) hx hb dX13_typeAt_39 (by decide) (fun c_7 => ?_) (fun c_7 => ?_)
        · rw [if_neg c_7] at hsp
          refine lv_iload_n hx hb dX13_typeAt_48 rfl (lv_at hl 2 rfl) ?_
          exact hj_49 (H, locs, ls, fs_2, (f100 (a1 : Int32).toNatClampNeg), a1, f118, f119, v117, (a1 + 1)) ⟨lv_sub hl [1, 0] rfl, hS, hD.sub (ws' := [(h0, .inr (13, fs_2)), (qf100, .inl (cf100, 48000, .inl f100)), (qf104, .inl (cf104, 8, .inl f104)), (qf102, .inl (cf102, 2048, .inl f102)), (qf118, .inl (cf118, 2100, .inl f118)), (qf119, .inl (cf119, 2100, .inl f119))]) [0, 1, 2, 3, 4, 5] (by decide) rfl, hP.sub (ws' := [(h0, .inr (13, fs_2)), (qf100, .inl (cf100, 48000, .inl f100)), (qf104, .inl (cf104, 8, .inl f104)), (qf102, .inl (cf102, 2048, .inl f102)), (qf118, .inl (cf118, 2100, .inl f118)), (qf119, .inl (cf119, 2100, .inl f119))]) [0, 1, 2, 3, 4, 5] rfl, hfs_2_98, hfs_2_100, hfs_2_102, hfs_2_104, hfs_2_117, hfs_2_118, hfs_2_119, hfs_2_120, hlfs_2, hrs_3, hsp⟩
        · rw [if_pos c_7] at hsp
          refine lv_iload_n hx hb dX13_typeAt_42 rfl (lv_at hl 2 rfl) ?_
          refine lv_iconst (v := 1) hx hb dX13_typeAt_43 (by decide) ?_
          refine lv_iadd hx hb dX13_typeAt_44 ?_
          refine lv_goto (tgt := 49) hx hb dX13_typeAt_45 (by decide) ?_
          exact hj_49 (H, locs, ls, fs_2, (f100 (a1 : Int32).toNatClampNeg), (a1 + 1), f118, f119, v117, (a1 + 1)) ⟨lv_sub hl [1, 0] rfl, hS, hD.sub (ws' := [(h0, .inr (13, fs_2)), (qf100, .inl (cf100, 48000, .inl f100)), (qf104, .inl (cf104, 8, .inl f104)), (qf102, .inl (cf102, 2048, .inl f102)), (qf118, .inl (cf118, 2100, .inl f118)), (qf119, .inl (cf119, 2100, .inl f119))]) [0, 1, 2, 3, 4, 5] (by decide) rfl, hP.sub (ws' := [(h0, .inr (13, fs_2)), (qf100, .inl (cf100, 48000, .inl f100)), (qf104, .inl (cf104, 8, .inl f104)), (qf102, .inl (cf102, 2048, .inl f102)), (qf118, .inl (cf118, 2100, .inl f118)), (qf119, .inl (cf119, 2100, .inl f119))]) [0, 1, 2, 3, 4, 5] rfl, hfs_2_98, hfs_2_100, hfs_2_102, hfs_2_104, hfs_2_117, hfs_2_118, hfs_2_119, hfs_2_120, hlfs_2, hrs_3, hsp⟩
      · rw [if_pos c_6] at hsp
        refine lv_iconst (v := 0) hx hb dX13_typeAt_34 (by decide) ?_
        have hr0 := Option.some.inj hsp
        clear hsp
        obtain ⟨hq0, hr1⟩ := Prod.mk.inj hr0
        clear hr0
        obtain ⟨hq1, hr2⟩ := Prod.mk.inj hr1
        clear hr1
        obtain ⟨hq2, hr3⟩ := Prod.mk.inj hr2
        clear hr2
        obtain ⟨hq3, hr4⟩ := Prod.mk.inj hr3
        clear hr3
        subst hq0
        subst hq1
        subst hq2
        subst hq3
        subst hr4
        have hP9 := hP.sub (ws' := [(h0, .inr (13, fs_2)), (qf100, .inl (cf100, 48000, .inl f100)), (qf104, .inl (cf104, 8, .inl f104)), (qf102, .inl (cf102, 2048, .inl f102)), (qf118, .inl (cf118, 2100, .inl f118)), (qf119, .inl (cf119, 2100, .inl f119))]) [0, 1, 2, 3, 4, 5] rfl
        have hD9 := hD.sub (ws' := [(h0, .inr (13, fs_2)), (qf100, .inl (cf100, 48000, .inl f100)), (qf104, .inl (cf104, 8, .inl f104)), (qf102, .inl (cf102, 2048, .inl f102)), (qf118, .inl (cf118, 2100, .inl f118)), (qf119, .inl (cf119, 2100, .inl f119))]) [0, 1, 2, 3, 4, 5] (by decide) rfl
        have hK9 := hK.sub (tys' := [(cf100, .int), (cf104, .int), (cf102, .int), (cf118, .int), (cf119, .int)]) [0, 1, 2, 3, 4] rfl
        exact W.iret hx hb hr (fun t ht hW => ⟨⟨(0), (fs_2), rfl, ⟨rfl, hlfs_2, hrs_3, hfs_2_117, hfs_2_120⟩, by rw [ht]; exact hP9, va_K.moved hW.alike hK9, hD9⟩, hS.F ht⟩) hS.2.2 dX13_typeAt_35
    · rw [if_pos c_5] at hsp
      refine lv_iconst (v := 1) hx hb dX13_typeAt_26 (by decide) ?_
      have hr0 := Option.some.inj hsp
      clear hsp
      obtain ⟨hq0, hr1⟩ := Prod.mk.inj hr0
      clear hr0
      obtain ⟨hq1, hr2⟩ := Prod.mk.inj hr1
      clear hr1
      obtain ⟨hq2, hr3⟩ := Prod.mk.inj hr2
      clear hr2
      obtain ⟨hq3, hr4⟩ := Prod.mk.inj hr3
      clear hr3
      subst hq0
      subst hq1
      subst hq2
      subst hq3
      subst hr4
      have hP9 := hP.sub (ws' := [(h0, .inr (13, fs_2)), (qf100, .inl (cf100, 48000, .inl f100)), (qf104, .inl (cf104, 8, .inl f104)), (qf102, .inl (cf102, 2048, .inl f102)), (qf118, .inl (cf118, 2100, .inl f118)), (qf119, .inl (cf119, 2100, .inl f119))]) [0, 1, 2, 3, 4, 5] rfl
      have hD9 := hD.sub (ws' := [(h0, .inr (13, fs_2)), (qf100, .inl (cf100, 48000, .inl f100)), (qf104, .inl (cf104, 8, .inl f104)), (qf102, .inl (cf102, 2048, .inl f102)), (qf118, .inl (cf118, 2100, .inl f118)), (qf119, .inl (cf119, 2100, .inl f119))]) [0, 1, 2, 3, 4, 5] (by decide) rfl
      have hK9 := hK.sub (tys' := [(cf100, .int), (cf104, .int), (cf102, .int), (cf118, .int), (cf119, .int)]) [0, 1, 2, 3, 4] rfl
      exact W.iret hx hb hr (fun t ht hW => ⟨⟨(1), (fs_2), rfl, ⟨rfl, hlfs_2, hrs_3, hfs_2_117, hfs_2_120⟩, by rw [ht]; exact hP9, va_K.moved hW.alike hK9, hD9⟩, hS.F ht⟩) hS.2.2 dX13_typeAt_27
def sp_vm_typeOfClass (nf : Nat) (a1 : Int32) (a2 : Int32) (v98 : Int32) (v117 : Int32) (v120 : Int32) (f102 : Nat → Int32) (f100 : Nat → Int32) (f104 : Nat → Int32) (f118 : Nat → Int32) (f119 : Nat → Int32) (nS477 : Nat) (fS477 : Nat → Int32) : Option (Int32 × (Nat → Int32) × (Nat → Int32) × Int32 × Int32) := ((sp_tm_textOfClass nf a1 a2 f102 f100).bind (fun p1 => (if ((256 * a1) + p1) < 0 then none else if 2048 ≤ (((256 * a1) + p1) : Int32).toNatClampNeg then none else (if (((6000 * a1) + (f102 (((256 * a1) + p1) : Int32).toNatClampNeg)) + 2) < 0 then none else if 48000 ≤ ((((6000 * a1) + (f102 (((256 * a1) + p1) : Int32).toNatClampNeg)) + 2) : Int32).toNatClampNeg then none else (if (f100 ((((6000 * a1) + (f102 (((256 * a1) + p1) : Int32).toNatClampNeg)) + 2) : Int32).toNatClampNeg) = 91 then ((sp_vm_typeAt nf (((6000 * a1) + (f102 (((256 * a1) + p1) : Int32).toNatClampNeg)) + 2) v98 v117 f100 f104 f102 f118 f119 nS477 fS477).bind (fun p3 => (some (p3.1, p3.2.1, p3.2.2.1, p3.2.2.2.1, p3.2.2.2.2)))) else (if (((6000 * a1) + (f102 (((256 * a1) + p1) : Int32).toNatClampNeg)) + 1) < 0 then none else if 48000 ≤ ((((6000 * a1) + (f102 (((256 * a1) + p1) : Int32).toNatClampNeg)) + 1) : Int32).toNatClampNeg then none else ((sp_vm_nameNumber nf (((6000 * a1) + (f102 (((256 * a1) + p1) : Int32).toNatClampNeg)) + 2) (f100 ((((6000 * a1) + (f102 (((256 * a1) + p1) : Int32).toNatClampNeg)) + 1) : Int32).toNatClampNeg) v98 v117 f104 f102 f100 f118 f119 nS477 fS477).bind (fun p2 => (some ((4 + (2 * p2.1)), p2.2.1, p2.2.2.1, p2.2.2.2, v120))))))))))
