set_option maxHeartbeats 4000000 in
set_option maxRecDepth 100000 in
/-- ClassMillModel.classNamed -/
theorem vm_classNamed (l : Launch) (dC : Nat → ClassId) (dI : Nat → Nat → Nat) (sz : Nat) (h0 : Nat) (zs : (List Value)) (qa1 : Nat) (a2 : Int32) (a3 : Int32) (v98 : Int32) (qf100 : Nat) (qf102 : Nat) (qf104 : Nat) (cf104 : ClassId) (f104 : (Nat → Int32)) (cf102 : ClassId) (f102 : (Nat → Int32)) (cf100 : ClassId) (f100 : (Nat → Int32)) (ca1 : ClassId) (na1 : Nat) (fa1 : (Nat → Int32)) (nS477 : Nat) (fS477 : (Nat → Int32)) (hS477 : Nat) (qS477 : Nat) (tS477 : String) (nf : Nat) (r0 : Int32) (hlen : zs.length = 155) (hf98 : zs[98]? = some (.int v98)) (hf100 : zs[100]? = some (.ref qf100)) (hf102 : zs[102]? = some (.ref qf102)) (hf104 : zs[104]? = some (.ref qf104)) (hsp : sp_vm_classNamed nf a2 a3 v98 f104 f102 f100 na1 fa1 nS477 fS477 = some r0) : Met l yX13_classNamed (.code yX13_classNamed cX13_classNamed 5 (some .int) :: VS_h9) ({ frames := 5, cells := 0, slots := 0, locals := 113 }) (va_Pc [.ref h0, .ref qa1, .int a2, .int a3] (fun U => U.heap.size = sz ∧ va_P (dC, dI) vwCl [(h0, .inr (13, zs)), (qf104, .inl (cf104, 8, .inl f104)), (qf102, .inl (cf102, 2048, .inl f102)), (qf100, .inl (cf100, 48000, .inl f100)), (qa1, .inl (ca1, na1, .inl fa1))] U.heap ∧ va_K (dC, dI) vwCl [(cf104, .int), (cf102, .int), (cf100, .int), (ca1, .int)] U ∧ va_D (fun _ => True) [(h0, .inr (13, zs)), (qf104, .inl (cf104, 8, .inl f104)), (qf102, .inl (cf102, 2048, .inl f102)), (qf100, .inl (cf100, 48000, .inl f100)), (qa1, .inl (ca1, na1, .inl fa1))] ∧ pz_W nS477 fS477 hS477 qS477 (va_A [(h0, .inr (13, zs)), (qf104, .inl (cf104, 8, .inl f104)), (qf102, .inl (cf102, 2048, .inl f102)), (qf100, .inl (cf100, 48000, .inl f100)), (qa1, .inl (ca1, na1, .inl fa1))] sz) U U.heap ∧ vk_R RX13 477 tS477 hS477 U)) (va_Qi (fun (r : Int32) (u : (List Value)) => match u with | (zo1) => r0 = r ∧ zo1.length = 155 ∧ (∀ j : Nat, zo1[j]? = zs[j]?)) (fun (u : (List Value)) (t : State) => match u with | (zo1) => va_P (dC, dI) vwCl [(h0, .inr (13, zo1)), (qf104, .inl (cf104, 8, .inl f104)), (qf102, .inl (cf102, 2048, .inl f102)), (qf100, .inl (cf100, 48000, .inl f100)), (qa1, .inl (ca1, na1, .inl fa1))] t.heap ∧ va_K (dC, dI) vwCl [(cf104, .int), (cf102, .int), (cf100, .int), (ca1, .int)] t ∧ va_D (va_A [(h0, .inr (13, zs)), (qf104, .inl (cf104, 8, .inl f104)), (qf102, .inl (cf102, 2048, .inl f102)), (qf100, .inl (cf100, 48000, .inl f100)), (qa1, .inl (ca1, na1, .inl fa1))] sz) [(h0, .inr (13, zo1)), (qf104, .inl (cf104, 8, .inl f104)), (qf102, .inl (cf102, 2048, .inl f102)), (qf100, .inl (cf100, 48000, .inl f100)), (qa1, .inl (ca1, na1, .inl fa1))]) (va_A [(h0, .inr (13, zs)), (qf104, .inl (cf104, 8, .inl f104)), (qf102, .inl (cf102, 2048, .inl f102)), (qf100, .inl (cf100, 48000, .inl f100)), (qa1, .inl (ca1, na1, .inl fa1))] sz)) 0 0 (va_A [(h0, .inr (13, zs)), (qf104, .inl (cf104, 8, .inl f104)), (qf102, .inl (cf102, 2048, .inl f102)), (qf100, .inl (cf100, 48000, .inl f100)), (qa1, .inl (ca1, na1, .inl fa1))] sz) := by
  refine Met.ofW (cc := cX13_classNamed) (maxL := 5) (ret := (some .int)) (by decide) rfl ?_
  intro p e s m args below meth c s₁ B hml hv
  obtain ⟨rfl, hsz, hP, hK, hD0, hZWS477, hZRS477⟩ := hv
  have hx := B.exec
  have hb := B.bytes
  have hr := B.returns
  have hts := atoms_spec (ws := (.code yX13_classNamed cX13_classNamed 5 (some .int) :: VS_h9)) B.pre
  replace hts := fun w (h : w ∈ VS_h9) => hts w (List.mem_cons_of_mem _ h)
  have hown : s.vm.findClass RX13 = some m.cls := findClass_of_methodNamed B.named
  have hlocks := B.notSynchronized
  subst hsz
  have hD := hD0.self (sz := s.heap.size)
  generalize hAe : va_A [(h0, .inr (13, zs)), (qf104, .inl (cf104, 8, .inl f104)), (qf102, .inl (cf102, 2048, .inl f102)), (qf100, .inl (cf100, 48000, .inl f100)), (qa1, .inl (ca1, na1, .inl fa1))] s.heap.size = A at hD hZWS477 ⊢
  have hA : ∀ q : Nat, s.heap.size ≤ q → A q := fun q h => by rw [← hAe]; exact Or.inr h
  have hP : va_P (dC, dI) vwCl [(h0, .inr (13, zs)), (qf104, .inl (cf104, 8, .inl f104)), (qf102, .inl (cf102, 2048, .inl f102)), (qf100, .inl (cf100, 48000, .inl f100)), (qa1, .inl (ca1, na1, .inl fa1))] s.heap := hP
  have hl := lv_entry ([.ref h0, .ref qa1, .int a2, .int a3]) (n := 5) (Nat.le_of_ble_eq_true rfl)
  rw [lg_entry_eq]
  generalize (lg_sl ([.ref h0, .ref qa1, .int a2, .int a3]) ++ List.replicate (5 - (lg_sl ([.ref h0, .ref qa1, .int a2, .int a3])).length) Slot.unset).toArray = ls at hl ⊢
  have hl : lv_has ls 5 [(0, .ref h0), (1, .ref qa1), (2, .int a2), (3, .int a3)] := hl
  obtain ⟨H, hH⟩ : ∃ H : Heap, s.heap = H := ⟨_, rfl⟩
  rw [hH] at hP ⊢
  have hS : va_S A s.heap H [] := by rw [← hH]; exact va_S.rf
  obtain ⟨locs, hlo⟩ : ∃ locs : List Loc, locs = [] := ⟨_, rfl⟩
  rw [← hlo] at hS ⊢
  have hrs0 : ∀ j : Nat, zs[j]? = zs[j]? := fun _  => rfl
  unfold sp_vm_classNamed at hsp
  refine lv_iconst (v := 0) hx hb dX13_classNamed_0 (by decide) ?_
  refine lv_istore (lv' := [(4, .int 0), (0, .ref h0), (1, .ref qa1), (2, .int a2), (3, .int a3)]) hx hb dX13_classNamed_1 hl (by decide) rfl (fun ls hl => ?_)
  replace hl : lv_has ls 5 [(4, .int 0), (0, .ref h0), (1, .ref qa1), (2, .int a2), (3, .int a3)] := lv_sub hl [0, 1, 2, 3, 4] rfl
  replace hP := hP.sub (ws' := [(h0, .inr (13, zs)), (qf104, .inl (cf104, 8, .inl f104)), (qf102, .inl (cf102, 2048, .inl f102)), (qf100, .inl (cf100, 48000, .inl f100)), (qa1, .inl (ca1, na1, .inl fa1))]) [0, 1, 2, 3, 4] rfl
  replace hD := hD.sub (ws' := [(h0, .inr (13, zs)), (qf104, .inl (cf104, 8, .inl f104)), (qf102, .inl (cf102, 2048, .inl f102)), (qf100, .inl (cf100, 48000, .inl f100)), (qa1, .inl (ca1, na1, .inl fa1))]) [0, 1, 2, 3, 4] (by decide) rfl
  replace hK := hK.sub (tys' := [(cf104, .int), (cf102, .int), (cf100, .int), (ca1, .int)]) [0, 1, 2, 3] rfl
  obtain ⟨n_3, hn_3⟩ : ∃ z : Nat, z = nf := ⟨_, rfl⟩
  obtain ⟨l2_3, el2_3⟩ : ∃ z : Int32, z = a2 := ⟨_, rfl⟩
  obtain ⟨l3_3, el3_3⟩ : ∃ z : Int32, z = a3 := ⟨_, rfl⟩
  obtain ⟨l4_3, el4_3⟩ : ∃ z : Int32, z = 0 := ⟨_, rfl⟩
  replace hsp : lp_vm_classNamed_3 nf n_3 a2 a3 v98 f104 f102 f100 na1 fa1 nS477 fS477 l2_3 l3_3 l4_3 = some r0 := by rw [hn_3, el2_3, el3_3, el4_3]; exact hsp
  replace hl : lv_has ls 5 [(4, .int l4_3), (0, .ref h0), (1, .ref qa1), (2, .int l2_3), (3, .int l3_3)] := by rw [el2_3, el3_3, el4_3]; exact hl
  obtain ⟨z3, ez3⟩ : ∃ z : List Value, z = zs := ⟨_, rfl⟩
  have hfh_3_98 : z3[98]? = some (.int v98) := by rw [ez3]; exact hf98
  have hfh_3_100 : z3[100]? = some (.ref qf100) := by rw [ez3]; exact hf100
  have hfh_3_102 : z3[102]? = some (.ref qf102) := by rw [ez3]; exact hf102
  have hfh_3_104 : z3[104]? = some (.ref qf104) := by rw [ez3]; exact hf104
  have hlh_3 : z3.length = 155 := by rw [ez3]; exact hlen
  have hrh_3 : ∀ j : Nat, z3[j]? = zs[j]? := by rw [ez3]; exact hrs0
  replace hP : va_P (dC, dI) vwCl [(h0, .inr (13, z3)), (qf104, .inl (cf104, 8, .inl f104)), (qf102, .inl (cf102, 2048, .inl f102)), (qf100, .inl (cf100, 48000, .inl f100)), (qa1, .inl (ca1, na1, .inl fa1))] H := by rw [ez3]; exact hP
  replace hD : va_D A [(h0, .inr (13, z3)), (qf104, .inl (cf104, 8, .inl f104)), (qf102, .inl (cf102, 2048, .inl f102)), (qf100, .inl (cf100, 48000, .inl f100)), (qa1, .inl (ca1, na1, .inl fa1))] := by rw [ez3]; exact hD
  clear hn_3 ez3 el2_3 el3_3 el4_3
  try clear hlo
  try clear hH
  revert hsp
  revert hP
  revert hD
  revert hS
  revert hl
  revert hrh_3
  revert hlh_3
  revert hfh_3_104
  revert hfh_3_102
  revert hfh_3_100
  revert hfh_3_98
  revert l4_3
  revert l3_3
  revert l2_3
  revert z3
  revert ls
  revert locs
  revert H
  induction n_3 with
  | zero => intro H locs ls z3 l2_3 l3_3 l4_3 hfh_3_98 hfh_3_100 hfh_3_102 hfh_3_104 hlh_3 hrh_3 hl hS hD hP hsp; unfold lp_vm_classNamed_3 at hsp; cases hsp
  | succ n_3 ih_3 =>
    intro H locs ls z3 l2_3 l3_3 l4_3 hfh_3_98 hfh_3_100 hfh_3_102 hfh_3_104 hlh_3 hrh_3 hl hS hD hP hsp
    unfold lp_vm_classNamed_3 at hsp
    try dsimp only at hsp
    refine lv_iload hx hb dX13_classNamed_3 (lv_at hl 0 rfl) ?_
    refine lv_bipush (v := 8) hx hb dX13_classNamed_5 (by decide) ?_
    refine lv_aload_n hx hb dX13_classNamed_7 rfl (lv_at hl 1 rfl) ?_
    refine va_get (D := (dC, dI)) (ci := 13) (v := .int v98) (C := RX13) (T := TX13) (N := 155) hx hb hts uV_h9_X13 hown hK hP 0 rfl rfl 98 (by decide) (hts (.fieldLink RX13 833 "ClassMillModel" "there" "I") mw_h9_276) (fun _ h9 => h9) hfh_3_98 dX13_classNamed_8 ?_
    refine lv_iadd hx hb dX13_classNamed_11 ?_
    refine lv_icmp_ge (tgt := 36) hx hb dX13_classNamed_12 (by decide) (fun c_1 => ?_) (fun c_1 => ?_)
    · rw [if_pos c_1] at hsp
      refine lv_iconst (v := (-1)) hx hb dX13_classNamed_36 (by decide) ?_
      have hr0 := Option.some.inj hsp
      clear hsp
      subst hr0
      have hP9 := hP.sub (ws' := [(h0, .inr (13, z3)), (qf104, .inl (cf104, 8, .inl f104)), (qf102, .inl (cf102, 2048, .inl f102)), (qf100, .inl (cf100, 48000, .inl f100)), (qa1, .inl (ca1, na1, .inl fa1))]) [0, 1, 2, 3, 4] rfl
      have hD9 := hD.sub (ws' := [(h0, .inr (13, z3)), (qf104, .inl (cf104, 8, .inl f104)), (qf102, .inl (cf102, 2048, .inl f102)), (qf100, .inl (cf100, 48000, .inl f100)), (qa1, .inl (ca1, na1, .inl fa1))]) [0, 1, 2, 3, 4] (by decide) rfl
      have hK9 := hK.sub (tys' := [(cf104, .int), (cf102, .int), (cf100, .int), (ca1, .int)]) [0, 1, 2, 3] rfl
      exact W.iret hx hb hr (fun t ht hW => ⟨⟨((-1)), (z3), rfl, ⟨rfl, hlh_3, hrh_3⟩, by rw [ht]; exact hP9, va_K.moved hW.alike hK9, hD9⟩, hS.F ht⟩) hS.2.2 dX13_classNamed_37
    · rw [if_neg c_1] at hsp
      refine lv_aload_n hx hb dX13_classNamed_15 rfl (lv_at hl 1 rfl) ?_
      refine lv_iload hx hb dX13_classNamed_16 (lv_at hl 0 rfl) ?_
      refine lv_aload_n hx hb dX13_classNamed_18 rfl (lv_at hl 2 rfl) ?_
      refine lv_iload_n hx hb dX13_classNamed_19 rfl (lv_at hl 3 rfl) ?_
      refine lv_iload_n hx hb dX13_classNamed_20 rfl (lv_at hl 4 rfl) ?_
      obtain ⟨u1_0, hu_1, hsp⟩ := ox_bind hsp
      try dsimp only at hsp
      have hPc := hP.sub (ws' := [(h0, .inr (13, z3)), (qf104, .inl (cf104, 8, .inl f104)), (qf102, .inl (cf102, 2048, .inl f102)), (qf100, .inl (cf100, 48000, .inl f100)), (qa1, .inl (ca1, na1, .inl fa1))]) [0, 1, 2, 3, 4] rfl
      have hDc := hD.sub (ws' := [(h0, .inr (13, z3)), (qf104, .inl (cf104, 8, .inl f104)), (qf102, .inl (cf102, 2048, .inl f102)), (qf100, .inl (cf100, 48000, .inl f100)), (qa1, .inl (ca1, na1, .inl fa1))]) [0, 1, 2, 3, 4] (by decide) rfl
      have hKc := hK.sub (tys' := [(cf104, .int), (cf102, .int), (cf100, .int), (ca1, .int)]) [0, 1, 2, 3] rfl
      have hFc := va_free (wc := [(h0, .inr (13, z3)), (qf104, .inl (cf104, 8, .inl f104)), (qf102, .inl (cf102, 2048, .inl f102)), (qf100, .inl (cf100, 48000, .inl f100)), (qa1, .inl (ca1, na1, .inl fa1))]) hD hS hA [0, 1, 2, 3, 4] rfl
      refine va_calli (va_runV (As := [.int l4_3, .ref qa1, .int l2_3, .int l3_3]) (rest := []) ⟨hx, hb, hml, hown, hts⟩ (vm_isNamed l dC dI H.size h0 z3 l4_3 qa1 l2_3 l3_3 qf100 qf102 qf104 cf104 f104 cf102 f102 cf100 f100 ca1 na1 fa1 nS477 fS477 hS477 qS477 tS477 nf u1_0 hlh_3 hfh_3_100 hfh_3_102 hfh_3_104 hu_1) (cwV 4 hts gv_h9_53 rfl rfl rfl (by decide +kernel) ⟨Nat.le_of_ble_eq_true rfl, Nat.le_of_ble_eq_true rfl⟩) ⟨fun a U g mk q => by obtain ⟨q0, q1, qP, qK, qD, qhZWS477, qhZRS477⟩ := q; exact ⟨q0, q1, qP, va_K.moved (u := U) (U := U.calling g mk a) (Vm.Alike.refl U.vm) qK, qD, pz_W.moved (u := U) (U := U.calling g mk a) (Vm.Alike.refl U.vm) qhZWS477, vk_R.same rfl qhZRS477⟩, va_recv hKc hPc (ci := 13) (q0 := 0) rfl rfl, fun U hU hW => ⟨rfl, by rw [hU], by rw [hU]; exact hPc, va_K.moved hW.alike hKc, hDc.weaken (fun _ _ _ _ => trivial), by rw [hU]; exact ((pz_W.moved hW.alike hZWS477).kept hS.2.1).narrow hFc, vk_R.warm hW hZRS477⟩⟩ rfl rfl hl.1 rfl (lv_room (Nat.le_of_ble_eq_true rfl)) dX13_classNamed_21 ⟨Nat.le_of_ble_eq_true rfl, Nat.le_of_ble_eq_true rfl⟩) hS (fun q _ h => hFc q h) hFc ?_
      clear hS
      intro r_2 u t H1 locs ht hvm hw hB hz1 hk1 hS
      obtain ⟨z_1, rfl⟩ : ∃ z, z = u := ⟨_, rfl⟩
      obtain ⟨hP1, hK1, hD1⟩ := hB
      rw [ht] at hP1
      have hK1 := va_K.moved hvm.symm hK1
      try dsimp only at hw
      have hPD := va_join (wr := []) (w1 := [(h0, .inr (13, z_1)), (qf104, .inl (cf104, 8, .inl f104)), (qf102, .inl (cf102, 2048, .inl f102)), (qf100, .inl (cf100, 48000, .inl f100)), (qa1, .inl (ca1, na1, .inl fa1))]) hP hD [0, 1, 2, 3, 4] [] rfl rfl (by decide) (by decide) hk1 hFc hP1 hD1
      clear hP hD
      obtain ⟨hP, hD⟩ := hPD
      replace hK := (hK.sub (tys' := []) [] rfl).app hK1
      clear hPc hDc hKc hFc hP1 hK1 hD1 hz1 hk1 ht hvm
      generalize H1 = H at hP hS ⊢
      replace hP : va_P (dC, dI) vwCl [(h0, .inr (13, z_1)), (qf104, .inl (cf104, 8, .inl f104)), (qf102, .inl (cf102, 2048, .inl f102)), (qf100, .inl (cf100, 48000, .inl f100)), (qa1, .inl (ca1, na1, .inl fa1))] H := hP
      replace hD : va_D A [(h0, .inr (13, z_1)), (qf104, .inl (cf104, 8, .inl f104)), (qf102, .inl (cf102, 2048, .inl f102)), (qf100, .inl (cf100, 48000, .inl f100)), (qa1, .inl (ca1, na1, .inl fa1))] := hD
      replace hK : va_K (dC, dI) vwCl [(cf104, .int), (cf102, .int), (cf100, .int), (ca1, .int)] s := hK
      obtain ⟨hwa_1, hln_1, hre_1⟩ := hw
      have hfk_1_98 : z_1[98]? = some (.int v98) := (hre_1 98 ).trans (hfh_3_98)
      have hfk_1_100 : z_1[100]? = some (.ref qf100) := (hre_1 100 ).trans (hfh_3_100)
      have hfk_1_102 : z_1[102]? = some (.ref qf102) := (hre_1 102 ).trans (hfh_3_102)
      have hfk_1_104 : z_1[104]? = some (.ref qf104) := (hre_1 104 ).trans (hfh_3_104)
      have hrq_1 : ∀ j : Nat, z_1[j]? = zs[j]? := fun j  => (hre_1 j ).trans (hrh_3 j )
      obtain ⟨rfl, hz_1⟩ := hwa_1
      rcases hz_1 with rfl | rfl
      · rw [if_pos rfl] at hsp
        refine lv_if_eq (tgt := 30) hx hb dX13_classNamed_24 (by decide) (fun c_3 => ?_) (fun c_3 => (show False by revert c_3; decide).elim)
        refine lv_iinc (v := (l4_3 + 1)) (lv' := [(4, .int (l4_3 + 1)), (0, .ref h0), (1, .ref qa1), (2, .int l2_3), (3, .int l3_3)]) hx hb dX13_classNamed_30 hl (k := 0) rfl rfl (by decide) rfl (fun ls hl => ?_)
        refine lv_goto (tgt := 3) hx hb dX13_classNamed_33 (by decide) ?_
        exact ih_3 H locs ls z_1 l2_3 l3_3 (l4_3 + 1) (hfk_1_98) (hfk_1_100) (hfk_1_102) (hfk_1_104) hln_1 hrq_1 (lv_sub hl [0, 1, 2, 3, 4] rfl) hS (hD.sub (ws' := [(h0, .inr (13, z_1)), (qf104, .inl (cf104, 8, .inl f104)), (qf102, .inl (cf102, 2048, .inl f102)), (qf100, .inl (cf100, 48000, .inl f100)), (qa1, .inl (ca1, na1, .inl fa1))]) [0, 1, 2, 3, 4] (by decide) rfl) (hP.sub (ws' := [(h0, .inr (13, z_1)), (qf104, .inl (cf104, 8, .inl f104)), (qf102, .inl (cf102, 2048, .inl f102)), (qf100, .inl (cf100, 48000, .inl f100)), (qa1, .inl (ca1, na1, .inl fa1))]) [0, 1, 2, 3, 4] rfl) hsp
      · rw [if_neg (by decide)] at hsp
        refine lv_if_eq (tgt := 30) hx hb dX13_classNamed_24 (by decide) (fun c_4 => (show False by revert c_4; decide).elim) (fun c_4 => ?_)
        refine lv_iload hx hb dX13_classNamed_27 (lv_at hl 0 rfl) ?_
        have hr0 := Option.some.inj hsp
        clear hsp
        subst hr0
        have hP9 := hP.sub (ws' := [(h0, .inr (13, z_1)), (qf104, .inl (cf104, 8, .inl f104)), (qf102, .inl (cf102, 2048, .inl f102)), (qf100, .inl (cf100, 48000, .inl f100)), (qa1, .inl (ca1, na1, .inl fa1))]) [0, 1, 2, 3, 4] rfl
        have hD9 := hD.sub (ws' := [(h0, .inr (13, z_1)), (qf104, .inl (cf104, 8, .inl f104)), (qf102, .inl (cf102, 2048, .inl f102)), (qf100, .inl (cf100, 48000, .inl f100)), (qa1, .inl (ca1, na1, .inl fa1))]) [0, 1, 2, 3, 4] (by decide) rfl
        have hK9 := hK.sub (tys' := [(cf104, .int), (cf102, .int), (cf100, .int), (ca1, .int)]) [0, 1, 2, 3] rfl
        exact W.iret hx hb hr (fun t ht hW => ⟨⟨(l4_3), (z_1), rfl, ⟨rfl, hln_1, hrq_1⟩, by rw [ht]; exact hP9, va_K.moved hW.alike hK9, hD9⟩, hS.F ht⟩) hS.2.2 dX13_classNamed_29
def lp_vm_aside_107 (nf n : Nat) (a1 : Int32) (f103 : Nat → Int32) (f116 : Nat → Int32) (f104 : Nat → Int32) (f105 : Nat → Int32) (f106 : Nat → Int32) (f108 : Nat → Int32) (f107 : Nat → Int32) (f109 : Nat → Int32) (f110 : Nat → Int32) (f111 : Nat → Int32) (f102 : Nat → Int32)  (l1_107 : Int32) (l2_107 : Int32) (l3_107 : Int32) (g116_107 : Nat → Int32) : Option ((Nat → Int32)) := match n with
  | 0 => none
  | n + 1 => (if 12 ≤ l3_107 then (some g116_107) else (if ((12 * l1_107) + l3_107) < 0 then none else if 96 ≤ (((12 * l1_107) + l3_107) : Int32).toNatClampNeg then none else (if ((l2_107 + 5) + l3_107) < 0 then none else if 309 ≤ (((l2_107 + 5) + l3_107) : Int32).toNatClampNeg then none else (if ((12 * l1_107) + l3_107) < 0 then none else if 96 ≤ (((12 * l1_107) + l3_107) : Int32).toNatClampNeg then none else (if ((l2_107 + 17) + l3_107) < 0 then none else if 309 ≤ (((l2_107 + 17) + l3_107) : Int32).toNatClampNeg then none else (if ((12 * l1_107) + l3_107) < 0 then none else if 96 ≤ (((12 * l1_107) + l3_107) : Int32).toNatClampNeg then none else (if ((l2_107 + 29) + l3_107) < 0 then none else if 309 ≤ (((l2_107 + 29) + l3_107) : Int32).toNatClampNeg then none else (if ((12 * l1_107) + l3_107) < 0 then none else if 96 ≤ (((12 * l1_107) + l3_107) : Int32).toNatClampNeg then none else (if ((l2_107 + 41) + l3_107) < 0 then none else if 309 ≤ (((l2_107 + 41) + l3_107) : Int32).toNatClampNeg then none else (lp_vm_aside_107 nf n a1 f103 f116 f104 f105 f106 f108 f107 f109 f110 f111 f102 l1_107 l2_107 (l3_107 + 1) (upd (upd (upd (upd g116_107 (((l2_107 + 5) + l3_107) : Int32).toNatClampNeg (f107 (((12 * l1_107) + l3_107) : Int32).toNatClampNeg)) (((l2_107 + 17) + l3_107) : Int32).toNatClampNeg (f109 (((12 * l1_107) + l3_107) : Int32).toNatClampNeg)) (((l2_107 + 29) + l3_107) : Int32).toNatClampNeg (f110 (((12 * l1_107) + l3_107) : Int32).toNatClampNeg)) (((l2_107 + 41) + l3_107) : Int32).toNatClampNeg (f111 (((12 * l1_107) + l3_107) : Int32).toNatClampNeg))))))))))))
def lp_vm_aside_2 (nf n : Nat) (a1 : Int32) (f103 : Nat → Int32) (f116 : Nat → Int32) (f104 : Nat → Int32) (f105 : Nat → Int32) (f106 : Nat → Int32) (f108 : Nat → Int32) (f107 : Nat → Int32) (f109 : Nat → Int32) (f110 : Nat → Int32) (f111 : Nat → Int32) (f102 : Nat → Int32)  (l1_2 : Int32) (l2_2 : Int32) (g116_2 : Nat → Int32) : Option ((Nat → Int32)) := match n with
  | 0 => none
  | n + 1 => (if 256 ≤ l2_2 then (if l1_2 < 0 then none else if 8 ≤ (l1_2 : Int32).toNatClampNeg then none else (if l1_2 < 0 then none else if 8 ≤ (l1_2 : Int32).toNatClampNeg then none else (if l1_2 < 0 then none else if 8 ≤ (l1_2 : Int32).toNatClampNeg then none else (if l1_2 < 0 then none else if 8 ≤ (l1_2 : Int32).toNatClampNeg then none else (if l1_2 < 0 then none else if 8 ≤ (l1_2 : Int32).toNatClampNeg then none else (lp_vm_aside_107 nf nf a1 f103 f116 f104 f105 f106 f108 f107 f109 f110 f111 f102  l1_2 256 0 (upd (upd (upd (upd (upd g116_2 (256 : Int32).toNatClampNeg (f103 (l1_2 : Int32).toNatClampNeg)) (257 : Int32).toNatClampNeg (f104 (l1_2 : Int32).toNatClampNeg)) (258 : Int32).toNatClampNeg (f105 (l1_2 : Int32).toNatClampNeg)) (259 : Int32).toNatClampNeg (f106 (l1_2 : Int32).toNatClampNeg)) (260 : Int32).toNatClampNeg (f108 (l1_2 : Int32).toNatClampNeg)))))))) else (if ((256 * l1_2) + l2_2) < 0 then none else if 2048 ≤ (((256 * l1_2) + l2_2) : Int32).toNatClampNeg then none else (if l2_2 < 0 then none else if 309 ≤ (l2_2 : Int32).toNatClampNeg then none else (lp_vm_aside_2 nf n a1 f103 f116 f104 f105 f106 f108 f107 f109 f110 f111 f102 l1_2 (l2_2 + 1) (upd g116_2 (l2_2 : Int32).toNatClampNeg (f102 (((256 * l1_2) + l2_2) : Int32).toNatClampNeg))))))
def sp_vm_aside (nf : Nat) (a1 : Int32) (f103 : Nat → Int32) (f116 : Nat → Int32) (f104 : Nat → Int32) (f105 : Nat → Int32) (f106 : Nat → Int32) (f108 : Nat → Int32) (f107 : Nat → Int32) (f109 : Nat → Int32) (f110 : Nat → Int32) (f111 : Nat → Int32) (f102 : Nat → Int32) : Option ((Nat → Int32)) := (lp_vm_aside_2 nf nf a1 f103 f116 f104 f105 f106 f108 f107 f109 f110 f111 f102  a1 0 f116)
set_option maxHeartbeats 4000000 in
set_option maxRecDepth 100000 in
/-- ClassMillModel.aside -/
theorem vm_aside (l : Launch) (dC : Nat → ClassId) (dI : Nat → Nat → Nat) (sz : Nat) (h0 : Nat) (zs : (List Value)) (a1 : Int32) (qf102 : Nat) (qf103 : Nat) (qf104 : Nat) (qf105 : Nat) (qf106 : Nat) (qf107 : Nat) (qf108 : Nat) (qf109 : Nat) (qf110 : Nat) (qf111 : Nat) (qf116 : Nat) (cf103 : ClassId) (f103 : (Nat → Int32)) (cf116 : ClassId) (f116 : (Nat → Int32)) (cf104 : ClassId) (f104 : (Nat → Int32)) (cf105 : ClassId) (f105 : (Nat → Int32)) (cf106 : ClassId) (f106 : (Nat → Int32)) (cf108 : ClassId) (f108 : (Nat → Int32)) (cf107 : ClassId) (f107 : (Nat → Int32)) (cf109 : ClassId) (f109 : (Nat → Int32)) (cf110 : ClassId) (f110 : (Nat → Int32)) (cf111 : ClassId) (f111 : (Nat → Int32)) (cf102 : ClassId) (f102 : (Nat → Int32)) (nf : Nat) (o116 : (Nat → Int32)) (hlen : zs.length = 155) (hf102 : zs[102]? = some (.ref qf102)) (hf103 : zs[103]? = some (.ref qf103)) (hf104 : zs[104]? = some (.ref qf104)) (hf105 : zs[105]? = some (.ref qf105)) (hf106 : zs[106]? = some (.ref qf106)) (hf107 : zs[107]? = some (.ref qf107)) (hf108 : zs[108]? = some (.ref qf108)) (hf109 : zs[109]? = some (.ref qf109)) (hf110 : zs[110]? = some (.ref qf110)) (hf111 : zs[111]? = some (.ref qf111)) (hf116 : zs[116]? = some (.ref qf116)) (hsp : sp_vm_aside nf a1 f103 f116 f104 f105 f106 f108 f107 f109 f110 f111 f102 = some o116) : Met l yX13_aside (.code yX13_aside cX13_aside 4 none :: VS_h9) ({ frames := 0, cells := 0, slots := 0, locals := 0 }) (va_Pc [.ref h0, .int a1] (fun U => U.heap.size = sz ∧ va_P (dC, dI) vwCl [(h0, .inr (13, zs)), (qf103, .inl (cf103, 8, .inl f103)), (qf116, .inl (cf116, 309, .inl f116)), (qf104, .inl (cf104, 8, .inl f104)), (qf105, .inl (cf105, 8, .inl f105)), (qf106, .inl (cf106, 8, .inl f106)), (qf108, .inl (cf108, 8, .inl f108)), (qf107, .inl (cf107, 96, .inl f107)), (qf109, .inl (cf109, 96, .inl f109)), (qf110, .inl (cf110, 96, .inl f110)), (qf111, .inl (cf111, 96, .inl f111)), (qf102, .inl (cf102, 2048, .inl f102))] U.heap ∧ va_K (dC, dI) vwCl [(cf103, .int), (cf116, .int), (cf104, .int), (cf105, .int), (cf106, .int), (cf108, .int), (cf107, .int), (cf109, .int), (cf110, .int), (cf111, .int), (cf102, .int)] U ∧ va_D (fun _ => True) [(h0, .inr (13, zs)), (qf103, .inl (cf103, 8, .inl f103)), (qf116, .inl (cf116, 309, .inl f116)), (qf104, .inl (cf104, 8, .inl f104)), (qf105, .inl (cf105, 8, .inl f105)), (qf106, .inl (cf106, 8, .inl f106)), (qf108, .inl (cf108, 8, .inl f108)), (qf107, .inl (cf107, 96, .inl f107)), (qf109, .inl (cf109, 96, .inl f109)), (qf110, .inl (cf110, 96, .inl f110)), (qf111, .inl (cf111, 96, .inl f111)), (qf102, .inl (cf102, 2048, .inl f102))])) (va_Qv (fun (u : (List Value)) => match u with | (zo1) => True ∧ zo1.length = 155 ∧ (∀ j : Nat, zo1[j]? = zs[j]?)) (fun (u : (List Value)) (t : State) => match u with | (zo1) => va_P (dC, dI) vwCl [(h0, .inr (13, zo1)), (qf103, .inl (cf103, 8, .inl f103)), (qf116, .inl (cf116, 309, .inl o116)), (qf104, .inl (cf104, 8, .inl f104)), (qf105, .inl (cf105, 8, .inl f105)), (qf106, .inl (cf106, 8, .inl f106)), (qf108, .inl (cf108, 8, .inl f108)), (qf107, .inl (cf107, 96, .inl f107)), (qf109, .inl (cf109, 96, .inl f109)), (qf110, .inl (cf110, 96, .inl f110)), (qf111, .inl (cf111, 96, .inl f111)), (qf102, .inl (cf102, 2048, .inl f102))] t.heap ∧ va_K (dC, dI) vwCl [(cf103, .int), (cf116, .int), (cf104, .int), (cf105, .int), (cf106, .int), (cf108, .int), (cf107, .int), (cf109, .int), (cf110, .int), (cf111, .int), (cf102, .int)] t ∧ va_D (va_A [(h0, .inr (13, zs)), (qf103, .inl (cf103, 8, .inl f103)), (qf116, .inl (cf116, 309, .inl f116)), (qf104, .inl (cf104, 8, .inl f104)), (qf105, .inl (cf105, 8, .inl f105)), (qf106, .inl (cf106, 8, .inl f106)), (qf108, .inl (cf108, 8, .inl f108)), (qf107, .inl (cf107, 96, .inl f107)), (qf109, .inl (cf109, 96, .inl f109)), (qf110, .inl (cf110, 96, .inl f110)), (qf111, .inl (cf111, 96, .inl f111)), (qf102, .inl (cf102, 2048, .inl f102))] sz) [(h0, .inr (13, zo1)), (qf103, .inl (cf103, 8, .inl f103)), (qf116, .inl (cf116, 309, .inl o116)), (qf104, .inl (cf104, 8, .inl f104)), (qf105, .inl (cf105, 8, .inl f105)), (qf106, .inl (cf106, 8, .inl f106)), (qf108, .inl (cf108, 8, .inl f108)), (qf107, .inl (cf107, 96, .inl f107)), (qf109, .inl (cf109, 96, .inl f109)), (qf110, .inl (cf110, 96, .inl f110)), (qf111, .inl (cf111, 96, .inl f111)), (qf102, .inl (cf102, 2048, .inl f102))]) (va_A [(h0, .inr (13, zs)), (qf103, .inl (cf103, 8, .inl f103)), (qf116, .inl (cf116, 309, .inl f116)), (qf104, .inl (cf104, 8, .inl f104)), (qf105, .inl (cf105, 8, .inl f105)), (qf106, .inl (cf106, 8, .inl f106)), (qf108, .inl (cf108, 8, .inl f108)), (qf107, .inl (cf107, 96, .inl f107)), (qf109, .inl (cf109, 96, .inl f109)), (qf110, .inl (cf110, 96, .inl f110)), (qf111, .inl (cf111, 96, .inl f111)), (qf102, .inl (cf102, 2048, .inl f102))] sz)) 0 0 (va_A [(h0, .inr (13, zs)), (qf103, .inl (cf103, 8, .inl f103)), (qf116, .inl (cf116, 309, .inl f116)), (qf104, .inl (cf104, 8, .inl f104)), (qf105, .inl (cf105, 8, .inl f105)), (qf106, .inl (cf106, 8, .inl f106)), (qf108, .inl (cf108, 8, .inl f108)), (qf107, .inl (cf107, 96, .inl f107)), (qf109, .inl (cf109, 96, .inl f109)), (qf110, .inl (cf110, 96, .inl f110)), (qf111, .inl (cf111, 96, .inl f111)), (qf102, .inl (cf102, 2048, .inl f102))] sz) := by
  refine Met.ofW (cc := cX13_aside) (maxL := 4) (ret := none) (by decide) rfl ?_
  intro p e s m args below meth c s₁ B hml hv
  obtain ⟨rfl, hsz, hP, hK, hD0⟩ := hv
  have hx := B.exec
  have hb := B.bytes
  have hr := B.returns
  have hts := atoms_spec (ws := (.code yX13_aside cX13_aside 4 none :: VS_h9)) B.pre
  replace hts := fun w (h : w ∈ VS_h9) => hts w (List.mem_cons_of_mem _ h)
  have hown : s.vm.findClass RX13 = some m.cls := findClass_of_methodNamed B.named
  have hlocks := B.notSynchronized
  subst hsz
  have hD := hD0.self (sz := s.heap.size)
  generalize hAe : va_A [(h0, .inr (13, zs)), (qf103, .inl (cf103, 8, .inl f103)), (qf116, .inl (cf116, 309, .inl f116)), (qf104, .inl (cf104, 8, .inl f104)), (qf105, .inl (cf105, 8, .inl f105)), (qf106, .inl (cf106, 8, .inl f106)), (qf108, .inl (cf108, 8, .inl f108)), (qf107, .inl (cf107, 96, .inl f107)), (qf109, .inl (cf109, 96, .inl f109)), (qf110, .inl (cf110, 96, .inl f110)), (qf111, .inl (cf111, 96, .inl f111)), (qf102, .inl (cf102, 2048, .inl f102))] s.heap.size = A at hD  ⊢
  have hA : ∀ q : Nat, s.heap.size ≤ q → A q := fun q h => by rw [← hAe]; exact Or.inr h
  have hP : va_P (dC, dI) vwCl [(h0, .inr (13, zs)), (qf103, .inl (cf103, 8, .inl f103)), (qf116, .inl (cf116, 309, .inl f116)), (qf104, .inl (cf104, 8, .inl f104)), (qf105, .inl (cf105, 8, .inl f105)), (qf106, .inl (cf106, 8, .inl f106)), (qf108, .inl (cf108, 8, .inl f108)), (qf107, .inl (cf107, 96, .inl f107)), (qf109, .inl (cf109, 96, .inl f109)), (qf110, .inl (cf110, 96, .inl f110)), (qf111, .inl (cf111, 96, .inl f111)), (qf102, .inl (cf102, 2048, .inl f102))] s.heap := hP
  have hl := lv_entry ([.ref h0, .int a1]) (n := 4) (Nat.le_of_ble_eq_true rfl)
  rw [lg_entry_eq]
  generalize (lg_sl ([.ref h0, .int a1]) ++ List.replicate (4 - (lg_sl ([.ref h0, .int a1])).length) Slot.unset).toArray = ls at hl ⊢
  have hl : lv_has ls 4 [(0, .ref h0), (1, .int a1)] := hl
  obtain ⟨H, hH⟩ : ∃ H : Heap, s.heap = H := ⟨_, rfl⟩
  rw [hH] at hP ⊢
  have hS : va_S A s.heap H [] := by rw [← hH]; exact va_S.rf
  obtain ⟨locs, hlo⟩ : ∃ locs : List Loc, locs = [] := ⟨_, rfl⟩
  rw [← hlo] at hS ⊢
  have hrs0 : ∀ j : Nat, zs[j]? = zs[j]? := fun _  => rfl
  unfold sp_vm_aside at hsp
  refine lv_iconst (v := 0) hx hb dX13_aside_0 (by decide) ?_
  refine lv_istore_n (lv' := [(2, .int 0), (0, .ref h0), (1, .int a1)]) hx hb dX13_aside_1 rfl hl (by decide) rfl (fun ls hl => ?_)
  replace hl : lv_has ls 4 [(2, .int 0), (0, .ref h0), (1, .int a1)] := lv_sub hl [0, 1, 2] rfl
  replace hP := hP.sub (ws' := [(h0, .inr (13, zs)), (qf103, .inl (cf103, 8, .inl f103)), (qf116, .inl (cf116, 309, .inl f116)), (qf104, .inl (cf104, 8, .inl f104)), (qf105, .inl (cf105, 8, .inl f105)), (qf106, .inl (cf106, 8, .inl f106)), (qf108, .inl (cf108, 8, .inl f108)), (qf107, .inl (cf107, 96, .inl f107)), (qf109, .inl (cf109, 96, .inl f109)), (qf110, .inl (cf110, 96, .inl f110)), (qf111, .inl (cf111, 96, .inl f111)), (qf102, .inl (cf102, 2048, .inl f102))]) [0, 1, 2, 3, 4, 5, 6, 7, 8, 9, 10, 11] rfl
  replace hD := hD.sub (ws' := [(h0, .inr (13, zs)), (qf103, .inl (cf103, 8, .inl f103)), (qf116, .inl (cf116, 309, .inl f116)), (qf104, .inl (cf104, 8, .inl f104)), (qf105, .inl (cf105, 8, .inl f105)), (qf106, .inl (cf106, 8, .inl f106)), (qf108, .inl (cf108, 8, .inl f108)), (qf107, .inl (cf107, 96, .inl f107)), (qf109, .inl (cf109, 96, .inl f109)), (qf110, .inl (cf110, 96, .inl f110)), (qf111, .inl (cf111, 96, .inl f111)), (qf102, .inl (cf102, 2048, .inl f102))]) [0, 1, 2, 3, 4, 5, 6, 7, 8, 9, 10, 11] (by decide) rfl
  replace hK := hK.sub (tys' := [(cf103, .int), (cf116, .int), (cf104, .int), (cf105, .int), (cf106, .int), (cf108, .int), (cf107, .int), (cf109, .int), (cf110, .int), (cf111, .int), (cf102, .int)]) [0, 1, 2, 3, 4, 5, 6, 7, 8, 9, 10] rfl
  obtain ⟨n_2, hn_2⟩ : ∃ z : Nat, z = nf := ⟨_, rfl⟩
  obtain ⟨l1_2, el1_2⟩ : ∃ z : Int32, z = a1 := ⟨_, rfl⟩
  obtain ⟨l2_2, el2_2⟩ : ∃ z : Int32, z = 0 := ⟨_, rfl⟩
  obtain ⟨g116_2, eg116_2⟩ : ∃ z : Nat → Int32, z = f116 := ⟨_, rfl⟩
  replace hsp : lp_vm_aside_2 nf n_2 a1 f103 f116 f104 f105 f106 f108 f107 f109 f110 f111 f102 l1_2 l2_2 g116_2 = some o116 := by rw [hn_2, el1_2, el2_2, eg116_2]; exact hsp
  replace hl : lv_has ls 4 [(2, .int l2_2), (0, .ref h0), (1, .int l1_2)] := by rw [el1_2, el2_2]; exact hl
  obtain ⟨z2, ez2⟩ : ∃ z : List Value, z = zs := ⟨_, rfl⟩
  have hfh_2_102 : z2[102]? = some (.ref qf102) := by rw [ez2]; exact hf102
  have hfh_2_103 : z2[103]? = some (.ref qf103) := by rw [ez2]; exact hf103
  have hfh_2_104 : z2[104]? = some (.ref qf104) := by rw [ez2]; exact hf104
  have hfh_2_105 : z2[105]? = some (.ref qf105) := by rw [ez2]; exact hf105
  have hfh_2_106 : z2[106]? = some (.ref qf106) := by rw [ez2]; exact hf106
  have hfh_2_107 : z2[107]? = some (.ref qf107) := by rw [ez2]; exact hf107
  have hfh_2_108 : z2[108]? = some (.ref qf108) := by rw [ez2]; exact hf108
  have hfh_2_109 : z2[109]? = some (.ref qf109) := by rw [ez2]; exact hf109
  have hfh_2_110 : z2[110]? = some (.ref qf110) := by rw [ez2]; exact hf110
  have hfh_2_111 : z2[111]? = some (.ref qf111) := by rw [ez2]; exact hf111
  have hfh_2_116 : z2[116]? = some (.ref qf116) := by rw [ez2]; exact hf116
  have hlh_2 : z2.length = 155 := by rw [ez2]; exact hlen
  have hrh_2 : ∀ j : Nat, z2[j]? = zs[j]? := by rw [ez2]; exact hrs0
  replace hP : va_P (dC, dI) vwCl [(h0, .inr (13, z2)), (qf103, .inl (cf103, 8, .inl f103)), (qf116, .inl (cf116, 309, .inl g116_2)), (qf104, .inl (cf104, 8, .inl f104)), (qf105, .inl (cf105, 8, .inl f105)), (qf106, .inl (cf106, 8, .inl f106)), (qf108, .inl (cf108, 8, .inl f108)), (qf107, .inl (cf107, 96, .inl f107)), (qf109, .inl (cf109, 96, .inl f109)), (qf110, .inl (cf110, 96, .inl f110)), (qf111, .inl (cf111, 96, .inl f111)), (qf102, .inl (cf102, 2048, .inl f102))] H := by rw [ez2, eg116_2]; exact hP
  replace hD : va_D A [(h0, .inr (13, z2)), (qf103, .inl (cf103, 8, .inl f103)), (qf116, .inl (cf116, 309, .inl g116_2)), (qf104, .inl (cf104, 8, .inl f104)), (qf105, .inl (cf105, 8, .inl f105)), (qf106, .inl (cf106, 8, .inl f106)), (qf108, .inl (cf108, 8, .inl f108)), (qf107, .inl (cf107, 96, .inl f107)), (qf109, .inl (cf109, 96, .inl f109)), (qf110, .inl (cf110, 96, .inl f110)), (qf111, .inl (cf111, 96, .inl f111)), (qf102, .inl (cf102, 2048, .inl f102))] := by rw [ez2, eg116_2]; exact hD
  clear hn_2 ez2 el1_2 el2_2 eg116_2
  try clear hlo
  try clear hH
  revert hsp
  revert hP
  revert hD
  revert hS
  revert hl
  revert hrh_2
  revert hlh_2
  revert hfh_2_116
  revert hfh_2_111
  revert hfh_2_110
  revert hfh_2_109
  revert hfh_2_108
  revert hfh_2_107
  revert hfh_2_106
  revert hfh_2_105
  revert hfh_2_104
  revert hfh_2_103
  revert hfh_2_102
  revert g116_2
  revert l2_2
  revert l1_2
  revert z2
  revert ls
  revert locs
  revert H
  induction n_2 with
  | zero => intro H locs ls z2 l1_2 l2_2 g116_2 hfh_2_102 hfh_2_103 hfh_2_104 hfh_2_105 hfh_2_106 hfh_2_107 hfh_2_108 hfh_2_109 hfh_2_110 hfh_2_111 hfh_2_116 hlh_2 hrh_2 hl hS hD hP hsp; unfold lp_vm_aside_2 at hsp; cases hsp
  | succ n_2 ih_2 =>
    intro H locs ls z2 l1_2 l2_2 g116_2 hfh_2_102 hfh_2_103 hfh_2_104 hfh_2_105 hfh_2_106 hfh_2_107 hfh_2_108 hfh_2_109 hfh_2_110 hfh_2_111 hfh_2_116 hlh_2 hrh_2 hl hS hD hP hsp
    unfold lp_vm_aside_2 at hsp
    try dsimp only at hsp
    refine lv_iload_n hx hb dX13_aside_2 rfl (lv_at hl 0 rfl) ?_
    refine lv_sipush (v := 256) hx hb dX13_aside_3 (by decide) ?_
    refine lv_icmp_ge (tgt := 33) hx hb dX13_aside_6 (by decide) (fun c_1 => ?_) (fun c_1 => ?_)
    · rw [if_pos c_1] at hsp
      refine lv_sipush (v := 256) hx hb dX13_aside_33 (by decide) ?_
      refine lv_istore_n (lv' := [(2, .int 256), (0, .ref h0), (1, .int l1_2)]) hx hb dX13_aside_36 rfl hl (by decide) rfl (fun ls hl => ?_)
      refine lv_aload_n hx hb dX13_aside_37 rfl (lv_at hl 1 rfl) ?_
      refine va_get (D := (dC, dI)) (ci := 13) (v := .ref qf116) (C := RX13) (T := TX13) (N := 155) hx hb hts uV_h9_X13 hown hK hP 0 rfl rfl 116 (by decide) (hts (.fieldLink RX13 248 "ClassMillModel" "kept" "[I") mw_h9_277) (fun _ h9 => h9) hfh_2_116 dX13_aside_38 ?_
      refine lv_iload_n hx hb dX13_aside_41 rfl (lv_at hl 0 rfl) ?_
      refine lv_aload_n hx hb dX13_aside_42 rfl (lv_at hl 1 rfl) ?_
      refine va_get (D := (dC, dI)) (ci := 13) (v := .ref qf103) (C := RX13) (T := TX13) (N := 155) hx hb hts uV_h9_X13 hown hK hP 0 rfl rfl 103 (by decide) (hts (.fieldLink RX13 218 "ClassMillModel" "constantMany" "[I") mw_h9_278) (fun _ h9 => h9) hfh_2_103 dX13_aside_43 ?_
      refine lv_iload_n hx hb dX13_aside_46 rfl (lv_at hl 2 rfl) ?_
      obtain ⟨hi_2, hsp⟩ := ox_in hsp
      refine va_iald hx hb hK hP 1 0 rfl rfl (i := l1_2) hi_2 dX13_aside_47 ?_
      refine va_iast hx hb hK hP hD hS 2 1 rfl rfl (i := 256) (x := (f103 (l1_2 : Int32).toNatClampNeg)) (by unfold vp_in; decide) dX13_aside_48 ?_
      clear hP hD hS
      intro H locs hP hD hS
      replace hP : va_P (dC, dI) vwCl [(h0, .inr (13, z2)), (qf103, .inl (cf103, 8, .inl f103)), (qf116, .inl (cf116, 309, .inl (upd g116_2 (256 : Int32).toNatClampNeg (f103 (l1_2 : Int32).toNatClampNeg)))), (qf104, .inl (cf104, 8, .inl f104)), (qf105, .inl (cf105, 8, .inl f105)), (qf106, .inl (cf106, 8, .inl f106)), (qf108, .inl (cf108, 8, .inl f108)), (qf107, .inl (cf107, 96, .inl f107)), (qf109, .inl (cf109, 96, .inl f109)), (qf110, .inl (cf110, 96, .inl f110)), (qf111, .inl (cf111, 96, .inl f111)), (qf102, .inl (cf102, 2048, .inl f102))] H := hP
      replace hD : va_D A [(h0, .inr (13, z2)), (qf103, .inl (cf103, 8, .inl f103)), (qf116, .inl (cf116, 309, .inl (upd g116_2 (256 : Int32).toNatClampNeg (f103 (l1_2 : Int32).toNatClampNeg)))), (qf104, .inl (cf104, 8, .inl f104)), (qf105, .inl (cf105, 8, .inl f105)), (qf106, .inl (cf106, 8, .inl f106)), (qf108, .inl (cf108, 8, .inl f108)), (qf107, .inl (cf107, 96, .inl f107)), (qf109, .inl (cf109, 96, .inl f109)), (qf110, .inl (cf110, 96, .inl f110)), (qf111, .inl (cf111, 96, .inl f111)), (qf102, .inl (cf102, 2048, .inl f102))] := hD
      refine lv_aload_n hx hb dX13_aside_49 rfl (lv_at hl 1 rfl) ?_
      refine va_get (D := (dC, dI)) (ci := 13) (v := .ref qf116) (C := RX13) (T := TX13) (N := 155) hx hb hts uV_h9_X13 hown hK hP 0 rfl rfl 116 (by decide) (hts (.fieldLink RX13 248 "ClassMillModel" "kept" "[I") mw_h9_277) (fun _ h9 => h9) hfh_2_116 dX13_aside_50 ?_
      refine lv_iload_n hx hb dX13_aside_53 rfl (lv_at hl 0 rfl) ?_
      refine lv_iconst (v := 1) hx hb dX13_aside_54 (by decide) ?_
      refine lv_iadd hx hb dX13_aside_55 ?_
      refine lv_topi (fun y_3 ey_3 => ?_)
      obtain rfl : y_3 = 257 := ey_3.trans (by decide)
      refine lv_aload_n hx hb dX13_aside_56 rfl (lv_at hl 1 rfl) ?_
      refine va_get (D := (dC, dI)) (ci := 13) (v := .ref qf104) (C := RX13) (T := TX13) (N := 155) hx hb hts uV_h9_X13 hown hK hP 0 rfl rfl 104 (by decide) (hts (.fieldLink RX13 221 "ClassMillModel" "ownClass" "[I") mw_h9_279) (fun _ h9 => h9) hfh_2_104 dX13_aside_57 ?_
      refine lv_iload_n hx hb dX13_aside_60 rfl (lv_at hl 2 rfl) ?_
      obtain ⟨hi_4, hsp⟩ := ox_in hsp
      refine va_iald hx hb hK hP 3 2 rfl rfl (i := l1_2) hi_4 dX13_aside_61 ?_
      refine va_iast hx hb hK hP hD hS 2 1 rfl rfl (i := 257) (x := (f104 (l1_2 : Int32).toNatClampNeg)) (by unfold vp_in; decide) dX13_aside_62 ?_
      clear hP hD hS
      intro H locs hP hD hS
      replace hP : va_P (dC, dI) vwCl [(h0, .inr (13, z2)), (qf103, .inl (cf103, 8, .inl f103)), (qf116, .inl (cf116, 309, .inl (upd (upd g116_2 (256 : Int32).toNatClampNeg (f103 (l1_2 : Int32).toNatClampNeg)) (257 : Int32).toNatClampNeg (f104 (l1_2 : Int32).toNatClampNeg)))), (qf104, .inl (cf104, 8, .inl f104)), (qf105, .inl (cf105, 8, .inl f105)), (qf106, .inl (cf106, 8, .inl f106)), (qf108, .inl (cf108, 8, .inl f108)), (qf107, .inl (cf107, 96, .inl f107)), (qf109, .inl (cf109, 96, .inl f109)), (qf110, .inl (cf110, 96, .inl f110)), (qf111, .inl (cf111, 96, .inl f111)), (qf102, .inl (cf102, 2048, .inl f102))] H := hP
      replace hD : va_D A [(h0, .inr (13, z2)), (qf103, .inl (cf103, 8, .inl f103)), (qf116, .inl (cf116, 309, .inl (upd (upd g116_2 (256 : Int32).toNatClampNeg (f103 (l1_2 : Int32).toNatClampNeg)) (257 : Int32).toNatClampNeg (f104 (l1_2 : Int32).toNatClampNeg)))), (qf104, .inl (cf104, 8, .inl f104)), (qf105, .inl (cf105, 8, .inl f105)), (qf106, .inl (cf106, 8, .inl f106)), (qf108, .inl (cf108, 8, .inl f108)), (qf107, .inl (cf107, 96, .inl f107)), (qf109, .inl (cf109, 96, .inl f109)), (qf110, .inl (cf110, 96, .inl f110)), (qf111, .inl (cf111, 96, .inl f111)), (qf102, .inl (cf102, 2048, .inl f102))] := hD
      refine lv_aload_n hx hb dX13_aside_63 rfl (lv_at hl 1 rfl) ?_
      refine va_get (D := (dC, dI)) (ci := 13) (v := .ref qf116) (C := RX13) (T := TX13) (N := 155) hx hb hts uV_h9_X13 hown hK hP 0 rfl rfl 116 (by decide) (hts (.fieldLink RX13 248 "ClassMillModel" "kept" "[I") mw_h9_277) (fun _ h9 => h9) hfh_2_116 dX13_aside_64 ?_
      refine lv_iload_n hx hb dX13_aside_67 rfl (lv_at hl 0 rfl) ?_
      refine lv_iconst (v := 2) hx hb dX13_aside_68 (by decide) ?_
      refine lv_iadd hx hb dX13_aside_69 ?_
      refine lv_topi (fun y_5 ey_5 => ?_)
      obtain rfl : y_5 = 258 := ey_5.trans (by decide)
      refine lv_aload_n hx hb dX13_aside_70 rfl (lv_at hl 1 rfl) ?_
      refine va_get (D := (dC, dI)) (ci := 13) (v := .ref qf105) (C := RX13) (T := TX13) (N := 155) hx hb hts uV_h9_X13 hown hK hP 0 rfl rfl 105 (by decide) (hts (.fieldLink RX13 224 "ClassMillModel" "ownUpper" "[I") mw_h9_280) (fun _ h9 => h9) hfh_2_105 dX13_aside_71 ?_
      refine lv_iload_n hx hb dX13_aside_74 rfl (lv_at hl 2 rfl) ?_
      obtain ⟨hi_6, hsp⟩ := ox_in hsp
      refine va_iald hx hb hK hP 4 3 rfl rfl (i := l1_2) hi_6 dX13_aside_75 ?_
      refine va_iast hx hb hK hP hD hS 2 1 rfl rfl (i := 258) (x := (f105 (l1_2 : Int32).toNatClampNeg)) (by unfold vp_in; decide) dX13_aside_76 ?_
      clear hP hD hS
      intro H locs hP hD hS
      replace hP : va_P (dC, dI) vwCl [(h0, .inr (13, z2)), (qf103, .inl (cf103, 8, .inl f103)), (qf116, .inl (cf116, 309, .inl (upd (upd (upd g116_2 (256 : Int32).toNatClampNeg (f103 (l1_2 : Int32).toNatClampNeg)) (257 : Int32).toNatClampNeg (f104 (l1_2 : Int32).toNatClampNeg)) (258 : Int32).toNatClampNeg (f105 (l1_2 : Int32).toNatClampNeg)))), (qf104, .inl (cf104, 8, .inl f104)), (qf105, .inl (cf105, 8, .inl f105)), (qf106, .inl (cf106, 8, .inl f106)), (qf108, .inl (cf108, 8, .inl f108)), (qf107, .inl (cf107, 96, .inl f107)), (qf109, .inl (cf109, 96, .inl f109)), (qf110, .inl (cf110, 96, .inl f110)), (qf111, .inl (cf111, 96, .inl f111)), (qf102, .inl (cf102, 2048, .inl f102))] H := hP
      replace hD : va_D A [(h0, .inr (13, z2)), (qf103, .inl (cf103, 8, .inl f103)), (qf116, .inl (cf116, 309, .inl (upd (upd (upd g116_2 (256 : Int32).toNatClampNeg (f103 (l1_2 : Int32).toNatClampNeg)) (257 : Int32).toNatClampNeg (f104 (l1_2 : Int32).toNatClampNeg)) (258 : Int32).toNatClampNeg (f105 (l1_2 : Int32).toNatClampNeg)))), (qf104, .inl (cf104, 8, .inl f104)), (qf105, .inl (cf105, 8, .inl f105)), (qf106, .inl (cf106, 8, .inl f106)), (qf108, .inl (cf108, 8, .inl f108)), (qf107, .inl (cf107, 96, .inl f107)), (qf109, .inl (cf109, 96, .inl f109)), (qf110, .inl (cf110, 96, .inl f110)), (qf111, .inl (cf111, 96, .inl f111)), (qf102, .inl (cf102, 2048, .inl f102))] := hD
      refine lv_aload_n hx hb dX13_aside_77 rfl (lv_at hl 1 rfl) ?_
      refine va_get (D := (dC, dI)) (ci := 13) (v := .ref qf116) (C := RX13) (T := TX13) (N := 155) hx hb hts uV_h9_X13 hown hK hP 0 rfl rfl 116 (by decide) (hts (.fieldLink RX13 248 "ClassMillModel" "kept" "[I") mw_h9_277) (fun _ h9 => h9) hfh_2_116 dX13_aside_78 ?_
      refine lv_iload_n hx hb dX13_aside_81 rfl (lv_at hl 0 rfl) ?_
      refine lv_iconst (v := 3) hx hb dX13_aside_82 (by decide) ?_
      refine lv_iadd hx hb dX13_aside_83 ?_
      refine lv_topi (fun y_7 ey_7 => ?_)
      obtain rfl : y_7 = 259 := ey_7.trans (by decide)
      refine lv_aload_n hx hb dX13_aside_84 rfl (lv_at hl 1 rfl) ?_
      refine va_get (D := (dC, dI)) (ci := 13) (v := .ref qf106) (C := RX13) (T := TX13) (N := 155) hx hb hts uV_h9_X13 hown hK hP 0 rfl rfl 106 (by decide) (hts (.fieldLink RX13 227 "ClassMillModel" "fieldMany" "[I") mw_h9_256) (fun _ h9 => h9) hfh_2_106 dX13_aside_85 ?_
      refine lv_iload_n hx hb dX13_aside_88 rfl (lv_at hl 2 rfl) ?_
      obtain ⟨hi_8, hsp⟩ := ox_in hsp
      refine va_iald hx hb hK hP 5 4 rfl rfl (i := l1_2) hi_8 dX13_aside_89 ?_
      refine va_iast hx hb hK hP hD hS 2 1 rfl rfl (i := 259) (x := (f106 (l1_2 : Int32).toNatClampNeg)) (by unfold vp_in; decide) dX13_aside_90 ?_
      clear hP hD hS
      intro H locs hP hD hS
      replace hP : va_P (dC, dI) vwCl [(h0, .inr (13, z2)), (qf103, .inl (cf103, 8, .inl f103)), (qf116, .inl (cf116, 309, .inl (upd (upd (upd (upd g116_2 (256 : Int32).toNatClampNeg (f103 (l1_2 : Int32).toNatClampNeg)) (257 : Int32).toNatClampNeg (f104 (l1_2 : Int32).toNatClampNeg)) (258 : Int32).toNatClampNeg (f105 (l1_2 : Int32).toNatClampNeg)) (259 : Int32).toNatClampNeg (f106 (l1_2 : Int32).toNatClampNeg)))), (qf104, .inl (cf104, 8, .inl f104)), (qf105, .inl (cf105, 8, .inl f105)), (qf106, .inl (cf106, 8, .inl f106)), (qf108, .inl (cf108, 8, .inl f108)), (qf107, .inl (cf107, 96, .inl f107)), (qf109, .inl (cf109, 96, .inl f109)), (qf110, .inl (cf110, 96, .inl f110)), (qf111, .inl (cf111, 96, .inl f111)), (qf102, .inl (cf102, 2048, .inl f102))] H := hP
      replace hD : va_D A [(h0, .inr (13, z2)), (qf103, .inl (cf103, 8, .inl f103)), (qf116, .inl (cf116, 309, .inl (upd (upd (upd (upd g116_2 (256 : Int32).toNatClampNeg (f103 (l1_2 : Int32).toNatClampNeg)) (257 : Int32).toNatClampNeg (f104 (l1_2 : Int32).toNatClampNeg)) (258 : Int32).toNatClampNeg (f105 (l1_2 : Int32).toNatClampNeg)) (259 : Int32).toNatClampNeg (f106 (l1_2 : Int32).toNatClampNeg)))), (qf104, .inl (cf104, 8, .inl f104)), (qf105, .inl (cf105, 8, .inl f105)), (qf106, .inl (cf106, 8, .inl f106)), (qf108, .inl (cf108, 8, .inl f108)), (qf107, .inl (cf107, 96, .inl f107)), (qf109, .inl (cf109, 96, .inl f109)), (qf110, .inl (cf110, 96, .inl f110)), (qf111, .inl (cf111, 96, .inl f111)), (qf102, .inl (cf102, 2048, .inl f102))] := hD
      refine lv_aload_n hx hb dX13_aside_91 rfl (lv_at hl 1 rfl) ?_
      refine va_get (D := (dC, dI)) (ci := 13) (v := .ref qf116) (C := RX13) (T := TX13) (N := 155) hx hb hts uV_h9_X13 hown hK hP 0 rfl rfl 116 (by decide) (hts (.fieldLink RX13 248 "ClassMillModel" "kept" "[I") mw_h9_277) (fun _ h9 => h9) hfh_2_116 dX13_aside_92 ?_
      refine lv_iload_n hx hb dX13_aside_95 rfl (lv_at hl 0 rfl) ?_
      refine lv_iconst (v := 4) hx hb dX13_aside_96 (by decide) ?_
      refine lv_iadd hx hb dX13_aside_97 ?_
      refine lv_topi (fun y_9 ey_9 => ?_)
      obtain rfl : y_9 = 260 := ey_9.trans (by decide)
      refine lv_aload_n hx hb dX13_aside_98 rfl (lv_at hl 1 rfl) ?_
      refine va_get (D := (dC, dI)) (ci := 13) (v := .ref qf108) (C := RX13) (T := TX13) (N := 155) hx hb hts uV_h9_X13 hown hK hP 0 rfl rfl 108 (by decide) (hts (.fieldLink RX13 233 "ClassMillModel" "methodMany" "[I") mw_h9_281) (fun _ h9 => h9) hfh_2_108 dX13_aside_99 ?_
      refine lv_iload_n hx hb dX13_aside_102 rfl (lv_at hl 2 rfl) ?_
      obtain ⟨hi_10, hsp⟩ := ox_in hsp
      refine va_iald hx hb hK hP 6 5 rfl rfl (i := l1_2) hi_10 dX13_aside_103 ?_
      refine va_iast hx hb hK hP hD hS 2 1 rfl rfl (i := 260) (x := (f108 (l1_2 : Int32).toNatClampNeg)) (by unfold vp_in; decide) dX13_aside_104 ?_
      clear hP hD hS
      intro H locs hP hD hS
      replace hP : va_P (dC, dI) vwCl [(h0, .inr (13, z2)), (qf103, .inl (cf103, 8, .inl f103)), (qf116, .inl (cf116, 309, .inl (upd (upd (upd (upd (upd g116_2 (256 : Int32).toNatClampNeg (f103 (l1_2 : Int32).toNatClampNeg)) (257 : Int32).toNatClampNeg (f104 (l1_2 : Int32).toNatClampNeg)) (258 : Int32).toNatClampNeg (f105 (l1_2 : Int32).toNatClampNeg)) (259 : Int32).toNatClampNeg (f106 (l1_2 : Int32).toNatClampNeg)) (260 : Int32).toNatClampNeg (f108 (l1_2 : Int32).toNatClampNeg)))), (qf104, .inl (cf104, 8, .inl f104)), (qf105, .inl (cf105, 8, .inl f105)), (qf106, .inl (cf106, 8, .inl f106)), (qf108, .inl (cf108, 8, .inl f108)), (qf107, .inl (cf107, 96, .inl f107)), (qf109, .inl (cf109, 96, .inl f109)), (qf110, .inl (cf110, 96, .inl f110)), (qf111, .inl (cf111, 96, .inl f111)), (qf102, .inl (cf102, 2048, .inl f102))] H := hP
      replace hD : va_D A [(h0, .inr (13, z2)), (qf103, .inl (cf103, 8, .inl f103)), (qf116, .inl (cf116, 309, .inl (upd (upd (upd (upd (upd g116_2 (256 : Int32).toNatClampNeg (f103 (l1_2 : Int32).toNatClampNeg)) (257 : Int32).toNatClampNeg (f104 (l1_2 : Int32).toNatClampNeg)) (258 : Int32).toNatClampNeg (f105 (l1_2 : Int32).toNatClampNeg)) (259 : Int32).toNatClampNeg (f106 (l1_2 : Int32).toNatClampNeg)) (260 : Int32).toNatClampNeg (f108 (l1_2 : Int32).toNatClampNeg)))), (qf104, .inl (cf104, 8, .inl f104)), (qf105, .inl (cf105, 8, .inl f105)), (qf106, .inl (cf106, 8, .inl f106)), (qf108, .inl (cf108, 8, .inl f108)), (qf107, .inl (cf107, 96, .inl f107)), (qf109, .inl (cf109, 96, .inl f109)), (qf110, .inl (cf110, 96, .inl f110)), (qf111, .inl (cf111, 96, .inl f111)), (qf102, .inl (cf102, 2048, .inl f102))] := hD
      refine lv_iconst (v := 0) hx hb dX13_aside_105 (by decide) ?_
      refine lv_istore_n (lv' := [(3, .int 0), (2, .int 256), (0, .ref h0), (1, .int l1_2)]) hx hb dX13_aside_106 rfl hl (by decide) rfl (fun ls hl => ?_)
      replace hl : lv_has ls 4 [(3, .int 0), (2, .int 256), (0, .ref h0), (1, .int l1_2)] := lv_sub hl [0, 1, 2, 3] rfl
      replace hP := hP.sub (ws' := [(h0, .inr (13, z2)), (qf103, .inl (cf103, 8, .inl f103)), (qf116, .inl (cf116, 309, .inl (upd (upd (upd (upd (upd g116_2 (256 : Int32).toNatClampNeg (f103 (l1_2 : Int32).toNatClampNeg)) (257 : Int32).toNatClampNeg (f104 (l1_2 : Int32).toNatClampNeg)) (258 : Int32).toNatClampNeg (f105 (l1_2 : Int32).toNatClampNeg)) (259 : Int32).toNatClampNeg (f106 (l1_2 : Int32).toNatClampNeg)) (260 : Int32).toNatClampNeg (f108 (l1_2 : Int32).toNatClampNeg)))), (qf104, .inl (cf104, 8, .inl f104)), (qf105, .inl (cf105, 8, .inl f105)), (qf106, .inl (cf106, 8, .inl f106)), (qf108, .inl (cf108, 8, .inl f108)), (qf107, .inl (cf107, 96, .inl f107)), (qf109, .inl (cf109, 96, .inl f109)), (qf110, .inl (cf110, 96, .inl f110)), (qf111, .inl (cf111, 96, .inl f111)), (qf102, .inl (cf102, 2048, .inl f102))]) [0, 1, 2, 3, 4, 5, 6, 7, 8, 9, 10, 11] rfl
      replace hD := hD.sub (ws' := [(h0, .inr (13, z2)), (qf103, .inl (cf103, 8, .inl f103)), (qf116, .inl (cf116, 309, .inl (upd (upd (upd (upd (upd g116_2 (256 : Int32).toNatClampNeg (f103 (l1_2 : Int32).toNatClampNeg)) (257 : Int32).toNatClampNeg (f104 (l1_2 : Int32).toNatClampNeg)) (258 : Int32).toNatClampNeg (f105 (l1_2 : Int32).toNatClampNeg)) (259 : Int32).toNatClampNeg (f106 (l1_2 : Int32).toNatClampNeg)) (260 : Int32).toNatClampNeg (f108 (l1_2 : Int32).toNatClampNeg)))), (qf104, .inl (cf104, 8, .inl f104)), (qf105, .inl (cf105, 8, .inl f105)), (qf106, .inl (cf106, 8, .inl f106)), (qf108, .inl (cf108, 8, .inl f108)), (qf107, .inl (cf107, 96, .inl f107)), (qf109, .inl (cf109, 96, .inl f109)), (qf110, .inl (cf110, 96, .inl f110)), (qf111, .inl (cf111, 96, .inl f111)), (qf102, .inl (cf102, 2048, .inl f102))]) [0, 1, 2, 3, 4, 5, 6, 7, 8, 9, 10, 11] (by decide) rfl
      replace hK := hK.sub (tys' := [(cf103, .int), (cf116, .int), (cf104, .int), (cf105, .int), (cf106, .int), (cf108, .int), (cf107, .int), (cf109, .int), (cf110, .int), (cf111, .int), (cf102, .int)]) [0, 1, 2, 3, 4, 5, 6, 7, 8, 9, 10] rfl
      obtain ⟨n_107, hn_107⟩ : ∃ z : Nat, z = nf := ⟨_, rfl⟩
      obtain ⟨l1_107, el1_107⟩ : ∃ z : Int32, z = l1_2 := ⟨_, rfl⟩
      obtain ⟨l2_107, el2_107⟩ : ∃ z : Int32, z = 256 := ⟨_, rfl⟩
      obtain ⟨l3_107, el3_107⟩ : ∃ z : Int32, z = 0 := ⟨_, rfl⟩
      obtain ⟨g116_107, eg116_107⟩ : ∃ z : Nat → Int32, z = (upd (upd (upd (upd (upd g116_2 (256 : Int32).toNatClampNeg (f103 (l1_2 : Int32).toNatClampNeg)) (257 : Int32).toNatClampNeg (f104 (l1_2 : Int32).toNatClampNeg)) (258 : Int32).toNatClampNeg (f105 (l1_2 : Int32).toNatClampNeg)) (259 : Int32).toNatClampNeg (f106 (l1_2 : Int32).toNatClampNeg)) (260 : Int32).toNatClampNeg (f108 (l1_2 : Int32).toNatClampNeg)) := ⟨_, rfl⟩
      replace hsp : lp_vm_aside_107 nf n_107 a1 f103 f116 f104 f105 f106 f108 f107 f109 f110 f111 f102 l1_107 l2_107 l3_107 g116_107 = some o116 := by rw [hn_107, el1_107, el2_107, el3_107, eg116_107]; exact hsp
      replace hl : lv_has ls 4 [(3, .int l3_107), (2, .int l2_107), (0, .ref h0), (1, .int l1_107)] := by rw [el1_107, el2_107, el3_107]; exact hl
      obtain ⟨z107, ez107⟩ : ∃ z : List Value, z = z2 := ⟨_, rfl⟩
      have hfh_107_102 : z107[102]? = some (.ref qf102) := by rw [ez107]; exact hfh_2_102
      have hfh_107_103 : z107[103]? = some (.ref qf103) := by rw [ez107]; exact hfh_2_103
      have hfh_107_104 : z107[104]? = some (.ref qf104) := by rw [ez107]; exact hfh_2_104
      have hfh_107_105 : z107[105]? = some (.ref qf105) := by rw [ez107]; exact hfh_2_105
      have hfh_107_106 : z107[106]? = some (.ref qf106) := by rw [ez107]; exact hfh_2_106
      have hfh_107_107 : z107[107]? = some (.ref qf107) := by rw [ez107]; exact hfh_2_107
      have hfh_107_108 : z107[108]? = some (.ref qf108) := by rw [ez107]; exact hfh_2_108
      have hfh_107_109 : z107[109]? = some (.ref qf109) := by rw [ez107]; exact hfh_2_109
      have hfh_107_110 : z107[110]? = some (.ref qf110) := by rw [ez107]; exact hfh_2_110
      have hfh_107_111 : z107[111]? = some (.ref qf111) := by rw [ez107]; exact hfh_2_111
      have hfh_107_116 : z107[116]? = some (.ref qf116) := by rw [ez107]; exact hfh_2_116
      have hlh_107 : z107.length = 155 := by rw [ez107]; exact hlh_2
      have hrh_107 : ∀ j : Nat, z107[j]? = zs[j]? := by rw [ez107]; exact hrh_2
      replace hP : va_P (dC, dI) vwCl [(h0, .inr (13, z107)), (qf103, .inl (cf103, 8, .inl f103)), (qf116, .inl (cf116, 309, .inl g116_107)), (qf104, .inl (cf104, 8, .inl f104)), (qf105, .inl (cf105, 8, .inl f105)), (qf106, .inl (cf106, 8, .inl f106)), (qf108, .inl (cf108, 8, .inl f108)), (qf107, .inl (cf107, 96, .inl f107)), (qf109, .inl (cf109, 96, .inl f109)), (qf110, .inl (cf110, 96, .inl f110)), (qf111, .inl (cf111, 96, .inl f111)), (qf102, .inl (cf102, 2048, .inl f102))] H := by rw [ez107, eg116_107]; exact hP
      replace hD : va_D A [(h0, .inr (13, z107)), (qf103, .inl (cf103, 8, .inl f103)), (qf116, .inl (cf116, 309, .inl g116_107)), (qf104, .inl (cf104, 8, .inl f104)), (qf105, .inl (cf105, 8, .inl f105)), (qf106, .inl (cf106, 8, .inl f106)), (qf108, .inl (cf108, 8, .inl f108)), (qf107, .inl (cf107, 96, .inl f107)), (qf109, .inl (cf109, 96, .inl f109)), (qf110, .inl (cf110, 96, .inl f110)), (qf111, .inl (cf111, 96, .inl f111)), (qf102, .inl (cf102, 2048, .inl f102))] := by rw [ez107, eg116_107]; exact hD
      clear hn_107 ez107 el1_107 el2_107 el3_107 eg116_107
      try clear hlo
      try clear hH
      revert hsp
      revert hP
      revert hD
      revert hS
      revert hl
      revert hrh_107
      revert hlh_107
      revert hfh_107_116
      revert hfh_107_111
      revert hfh_107_110
      revert hfh_107_109
      revert hfh_107_108
      revert hfh_107_107
      revert hfh_107_106
      revert hfh_107_105
      revert hfh_107_104
      revert hfh_107_103
      revert hfh_107_102
      revert g116_107
      revert l3_107
      revert l2_107
      revert l1_107
      revert z107
      revert ls
      revert locs
      revert H
      induction n_107 with
      | zero => intro H locs ls z107 l1_107 l2_107 l3_107 g116_107 hfh_107_102 hfh_107_103 hfh_107_104 hfh_107_105 hfh_107_106 hfh_107_107 hfh_107_108 hfh_107_109 hfh_107_110 hfh_107_111 hfh_107_116 hlh_107 hrh_107 hl hS hD hP hsp; unfold lp_vm_aside_107 at hsp; cases hsp
      | succ n_107 ih_107 =>
        intro H locs ls z107 l1_107 l2_107 l3_107 g116_107 hfh_107_102 hfh_107_103 hfh_107_104 hfh_107_105 hfh_107_106 hfh_107_107 hfh_107_108 hfh_107_109 hfh_107_110 hfh_107_111 hfh_107_116 hlh_107 hrh_107 hl hS hD hP hsp
        unfold lp_vm_aside_107 at hsp
        try dsimp only at hsp
        refine lv_iload_n hx hb dX13_aside_107 rfl (lv_at hl 0 rfl) ?_
        refine lv_bipush (v := 12) hx hb dX13_aside_108 (by decide) ?_
        refine lv_icmp_ge (tgt := 206) hx hb dX13_aside_110 (by decide) (fun c_11 => ?_) (fun c_11 => ?_)
        · rw [if_pos c_11] at hsp
          have hr0 := Option.some.inj hsp
          clear hsp
          subst hr0
          have hP9 := hP.sub (ws' := [(h0, .inr (13, z107)), (qf103, .inl (cf103, 8, .inl f103)), (qf116, .inl (cf116, 309, .inl g116_107)), (qf104, .inl (cf104, 8, .inl f104)), (qf105, .inl (cf105, 8, .inl f105)), (qf106, .inl (cf106, 8, .inl f106)), (qf108, .inl (cf108, 8, .inl f108)), (qf107, .inl (cf107, 96, .inl f107)), (qf109, .inl (cf109, 96, .inl f109)), (qf110, .inl (cf110, 96, .inl f110)), (qf111, .inl (cf111, 96, .inl f111)), (qf102, .inl (cf102, 2048, .inl f102))]) [0, 1, 2, 3, 4, 5, 6, 7, 8, 9, 10, 11] rfl
          have hD9 := hD.sub (ws' := [(h0, .inr (13, z107)), (qf103, .inl (cf103, 8, .inl f103)), (qf116, .inl (cf116, 309, .inl g116_107)), (qf104, .inl (cf104, 8, .inl f104)), (qf105, .inl (cf105, 8, .inl f105)), (qf106, .inl (cf106, 8, .inl f106)), (qf108, .inl (cf108, 8, .inl f108)), (qf107, .inl (cf107, 96, .inl f107)), (qf109, .inl (cf109, 96, .inl f109)), (qf110, .inl (cf110, 96, .inl f110)), (qf111, .inl (cf111, 96, .inl f111)), (qf102, .inl (cf102, 2048, .inl f102))]) [0, 1, 2, 3, 4, 5, 6, 7, 8, 9, 10, 11] (by decide) rfl
          have hK9 := hK.sub (tys' := [(cf103, .int), (cf116, .int), (cf104, .int), (cf105, .int), (cf106, .int), (cf108, .int), (cf107, .int), (cf109, .int), (cf110, .int), (cf111, .int), (cf102, .int)]) [0, 1, 2, 3, 4, 5, 6, 7, 8, 9, 10] rfl
          exact W.vret hx hb hr (fun t ht hW => ⟨⟨(z107), rfl, ⟨trivial, hlh_107, hrh_107⟩, by rw [ht]; exact hP9, va_K.moved hW.alike hK9, hD9⟩, hS.F ht⟩) hS.2.2 dX13_aside_206
        · rw [if_neg c_11] at hsp
          refine lv_aload_n hx hb dX13_aside_113 rfl (lv_at hl 2 rfl) ?_
          refine va_get (D := (dC, dI)) (ci := 13) (v := .ref qf116) (C := RX13) (T := TX13) (N := 155) hx hb hts uV_h9_X13 hown hK hP 0 rfl rfl 116 (by decide) (hts (.fieldLink RX13 248 "ClassMillModel" "kept" "[I") mw_h9_277) (fun _ h9 => h9) hfh_107_116 dX13_aside_114 ?_
          refine lv_iload_n hx hb dX13_aside_117 rfl (lv_at hl 1 rfl) ?_
          refine lv_iconst (v := 5) hx hb dX13_aside_118 (by decide) ?_
          refine lv_iadd hx hb dX13_aside_119 ?_
          refine lv_iload_n hx hb dX13_aside_120 rfl (lv_at hl 0 rfl) ?_
          refine lv_iadd hx hb dX13_aside_121 ?_
          refine lv_aload_n hx hb dX13_aside_122 rfl (lv_at hl 2 rfl) ?_
          refine va_get (D := (dC, dI)) (ci := 13) (v := .ref qf107) (C := RX13) (T := TX13) (N := 155) hx hb hts uV_h9_X13 hown hK hP 0 rfl rfl 107 (by decide) (hts (.fieldLink RX13 230 "ClassMillModel" "fieldAt" "[I") mw_h9_257) (fun _ h9 => h9) hfh_107_107 dX13_aside_123 ?_
          refine lv_bipush (v := 12) hx hb dX13_aside_126 (by decide) ?_
          refine lv_iload_n hx hb dX13_aside_128 rfl (lv_at hl 3 rfl) ?_
          refine lv_imul hx hb dX13_aside_129 ?_
          refine lv_iload_n hx hb dX13_aside_130 rfl (lv_at hl 0 rfl) ?_
          refine lv_iadd hx hb dX13_aside_131 ?_
          obtain ⟨hi_12, hsp⟩ := ox_in hsp
          refine va_iald hx hb hK hP 7 6 rfl rfl (i := ((12 * l1_107) + l3_107)) hi_12 dX13_aside_132 ?_
          obtain ⟨hi_13, hsp⟩ := ox_in hsp
          refine va_iast hx hb hK hP hD hS 2 1 rfl rfl (i := ((l2_107 + 5) + l3_107)) (x := (f107 (((12 * l1_107) + l3_107) : Int32).toNatClampNeg)) hi_13 dX13_aside_133 ?_
          clear hP hD hS
          intro H locs hP hD hS
          replace hP : va_P (dC, dI) vwCl [(h0, .inr (13, z107)), (qf103, .inl (cf103, 8, .inl f103)), (qf116, .inl (cf116, 309, .inl (upd g116_107 (((l2_107 + 5) + l3_107) : Int32).toNatClampNeg (f107 (((12 * l1_107) + l3_107) : Int32).toNatClampNeg)))), (qf104, .inl (cf104, 8, .inl f104)), (qf105, .inl (cf105, 8, .inl f105)), (qf106, .inl (cf106, 8, .inl f106)), (qf108, .inl (cf108, 8, .inl f108)), (qf107, .inl (cf107, 96, .inl f107)), (qf109, .inl (cf109, 96, .inl f109)), (qf110, .inl (cf110, 96, .inl f110)), (qf111, .inl (cf111, 96, .inl f111)), (qf102, .inl (cf102, 2048, .inl f102))] H := hP
          replace hD : va_D A [(h0, .inr (13, z107)), (qf103, .inl (cf103, 8, .inl f103)), (qf116, .inl (cf116, 309, .inl (upd g116_107 (((l2_107 + 5) + l3_107) : Int32).toNatClampNeg (f107 (((12 * l1_107) + l3_107) : Int32).toNatClampNeg)))), (qf104, .inl (cf104, 8, .inl f104)), (qf105, .inl (cf105, 8, .inl f105)), (qf106, .inl (cf106, 8, .inl f106)), (qf108, .inl (cf108, 8, .inl f108)), (qf107, .inl (cf107, 96, .inl f107)), (qf109, .inl (cf109, 96, .inl f109)), (qf110, .inl (cf110, 96, .inl f110)), (qf111, .inl (cf111, 96, .inl f111)), (qf102, .inl (cf102, 2048, .inl f102))] := hD
          refine lv_aload_n hx hb dX13_aside_134 rfl (lv_at hl 2 rfl) ?_
          refine va_get (D := (dC, dI)) (ci := 13) (v := .ref qf116) (C := RX13) (T := TX13) (N := 155) hx hb hts uV_h9_X13 hown hK hP 0 rfl rfl 116 (by decide) (hts (.fieldLink RX13 248 "ClassMillModel" "kept" "[I") mw_h9_277) (fun _ h9 => h9) hfh_107_116 dX13_aside_135 ?_
          refine lv_iload_n hx hb dX13_aside_138 rfl (lv_at hl 1 rfl) ?_
          refine lv_bipush (v := 17) hx hb dX13_aside_139 (by decide) ?_
          refine lv_iadd hx hb dX13_aside_141 ?_
          refine lv_iload_n hx hb dX13_aside_142 rfl (lv_at hl 0 rfl) ?_
          refine lv_iadd hx hb dX13_aside_143 ?_
          refine lv_aload_n hx hb dX13_aside_144 rfl (lv_at hl 2 rfl) ?_
          refine va_get (D := (dC, dI)) (ci := 13) (v := .ref qf109) (C := RX13) (T := TX13) (N := 155) hx hb hts uV_h9_X13 hown hK hP 0 rfl rfl 109 (by decide) (hts (.fieldLink RX13 236 "ClassMillModel" "methodAt" "[I") mw_h9_282) (fun _ h9 => h9) hfh_107_109 dX13_aside_145 ?_
          refine lv_bipush (v := 12) hx hb dX13_aside_148 (by decide) ?_
          refine lv_iload_n hx hb dX13_aside_150 rfl (lv_at hl 3 rfl) ?_
          refine lv_imul hx hb dX13_aside_151 ?_
          refine lv_iload_n hx hb dX13_aside_152 rfl (lv_at hl 0 rfl) ?_
          refine lv_iadd hx hb dX13_aside_153 ?_
          obtain ⟨hi_14, hsp⟩ := ox_in hsp
          refine va_iald hx hb hK hP 8 7 rfl rfl (i := ((12 * l1_107) + l3_107)) hi_14 dX13_aside_154 ?_
          obtain ⟨hi_15, hsp⟩ := ox_in hsp
          refine va_iast hx hb hK hP hD hS 2 1 rfl rfl (i := ((l2_107 + 17) + l3_107)) (x := (f109 (((12 * l1_107) + l3_107) : Int32).toNatClampNeg)) hi_15 dX13_aside_155 ?_
          clear hP hD hS
          intro H locs hP hD hS
          replace hP : va_P (dC, dI) vwCl [(h0, .inr (13, z107)), (qf103, .inl (cf103, 8, .inl f103)), (qf116, .inl (cf116, 309, .inl (upd (upd g116_107 (((l2_107 + 5) + l3_107) : Int32).toNatClampNeg (f107 (((12 * l1_107) + l3_107) : Int32).toNatClampNeg)) (((l2_107 + 17) + l3_107) : Int32).toNatClampNeg (f109 (((12 * l1_107) + l3_107) : Int32).toNatClampNeg)))), (qf104, .inl (cf104, 8, .inl f104)), (qf105, .inl (cf105, 8, .inl f105)), (qf106, .inl (cf106, 8, .inl f106)), (qf108, .inl (cf108, 8, .inl f108)), (qf107, .inl (cf107, 96, .inl f107)), (qf109, .inl (cf109, 96, .inl f109)), (qf110, .inl (cf110, 96, .inl f110)), (qf111, .inl (cf111, 96, .inl f111)), (qf102, .inl (cf102, 2048, .inl f102))] H := hP
          replace hD : va_D A [(h0, .inr (13, z107)), (qf103, .inl (cf103, 8, .inl f103)), (qf116, .inl (cf116, 309, .inl (upd (upd g116_107 (((l2_107 + 5) + l3_107) : Int32).toNatClampNeg (f107 (((12 * l1_107) + l3_107) : Int32).toNatClampNeg)) (((l2_107 + 17) + l3_107) : Int32).toNatClampNeg (f109 (((12 * l1_107) + l3_107) : Int32).toNatClampNeg)))), (qf104, .inl (cf104, 8, .inl f104)), (qf105, .inl (cf105, 8, .inl f105)), (qf106, .inl (cf106, 8, .inl f106)), (qf108, .inl (cf108, 8, .inl f108)), (qf107, .inl (cf107, 96, .inl f107)), (qf109, .inl (cf109, 96, .inl f109)), (qf110, .inl (cf110, 96, .inl f110)), (qf111, .inl (cf111, 96, .inl f111)), (qf102, .inl (cf102, 2048, .inl f102))] := hD
          refine lv_aload_n hx hb dX13_aside_156 rfl (lv_at hl 2 rfl) ?_
          refine va_get (D := (dC, dI)) (ci := 13) (v := .ref qf116) (C := RX13) (T := TX13) (N := 155) hx hb hts uV_h9_X13 hown hK hP 0 rfl rfl 116 (by decide) (hts (.fieldLink RX13 248 "ClassMillModel" "kept" "[I") mw_h9_277) (fun _ h9 => h9) hfh_107_116 dX13_aside_157 ?_
          refine lv_iload_n hx hb dX13_aside_160 rfl (lv_at hl 1 rfl) ?_
          refine lv_bipush (v := 29) hx hb dX13_aside_161 (by decide) ?_
          refine lv_iadd hx hb dX13_aside_163 ?_
          refine lv_iload_n hx hb dX13_aside_164 rfl (lv_at hl 0 rfl) ?_
          refine lv_iadd hx hb dX13_aside_165 ?_
          refine lv_aload_n hx hb dX13_aside_166 rfl (lv_at hl 2 rfl) ?_
          refine va_get (D := (dC, dI)) (ci := 13) (v := .ref qf110) (C := RX13) (T := TX13) (N := 155) hx hb hts uV_h9_X13 hown hK hP 0 rfl rfl 110 (by decide) (hts (.fieldLink RX13 239 "ClassMillModel" "handlersAt" "[I") mw_h9_283) (fun _ h9 => h9) hfh_107_110 dX13_aside_167 ?_
          refine lv_bipush (v := 12) hx hb dX13_aside_170 (by decide) ?_
          refine lv_iload_n hx hb dX13_aside_172 rfl (lv_at hl 3 rfl) ?_
          refine lv_imul hx hb dX13_aside_173 ?_
          refine lv_iload_n hx hb dX13_aside_174 rfl (lv_at hl 0 rfl) ?_
          refine lv_iadd hx hb dX13_aside_175 ?_
          obtain ⟨hi_16, hsp⟩ := ox_in hsp
          refine va_iald hx hb hK hP 9 8 rfl rfl (i := ((12 * l1_107) + l3_107)) hi_16 dX13_aside_176 ?_
          obtain ⟨hi_17, hsp⟩ := ox_in hsp
          refine va_iast hx hb hK hP hD hS 2 1 rfl rfl (i := ((l2_107 + 29) + l3_107)) (x := (f110 (((12 * l1_107) + l3_107) : Int32).toNatClampNeg)) hi_17 dX13_aside_177 ?_
          clear hP hD hS
          intro H locs hP hD hS
          replace hP : va_P (dC, dI) vwCl [(h0, .inr (13, z107)), (qf103, .inl (cf103, 8, .inl f103)), (qf116, .inl (cf116, 309, .inl (upd (upd (upd g116_107 (((l2_107 + 5) + l3_107) : Int32).toNatClampNeg (f107 (((12 * l1_107) + l3_107) : Int32).toNatClampNeg)) (((l2_107 + 17) + l3_107) : Int32).toNatClampNeg (f109 (((12 * l1_107) + l3_107) : Int32).toNatClampNeg)) (((l2_107 + 29) + l3_107) : Int32).toNatClampNeg (f110 (((12 * l1_107) + l3_107) : Int32).toNatClampNeg)))), (qf104, .inl (cf104, 8, .inl f104)), (qf105, .inl (cf105, 8, .inl f105)), (qf106, .inl (cf106, 8, .inl f106)), (qf108, .inl (cf108, 8, .inl f108)), (qf107, .inl (cf107, 96, .inl f107)), (qf109, .inl (cf109, 96, .inl f109)), (qf110, .inl (cf110, 96, .inl f110)), (qf111, .inl (cf111, 96, .inl f111)), (qf102, .inl (cf102, 2048, .inl f102))] H := hP
          replace hD : va_D A [(h0, .inr (13, z107)), (qf103, .inl (cf103, 8, .inl f103)), (qf116, .inl (cf116, 309, .inl (upd (upd (upd g116_107 (((l2_107 + 5) + l3_107) : Int32).toNatClampNeg (f107 (((12 * l1_107) + l3_107) : Int32).toNatClampNeg)) (((l2_107 + 17) + l3_107) : Int32).toNatClampNeg (f109 (((12 * l1_107) + l3_107) : Int32).toNatClampNeg)) (((l2_107 + 29) + l3_107) : Int32).toNatClampNeg (f110 (((12 * l1_107) + l3_107) : Int32).toNatClampNeg)))), (qf104, .inl (cf104, 8, .inl f104)), (qf105, .inl (cf105, 8, .inl f105)), (qf106, .inl (cf106, 8, .inl f106)), (qf108, .inl (cf108, 8, .inl f108)), (qf107, .inl (cf107, 96, .inl f107)), (qf109, .inl (cf109, 96, .inl f109)), (qf110, .inl (cf110, 96, .inl f110)), (qf111, .inl (cf111, 96, .inl f111)), (qf102, .inl (cf102, 2048, .inl f102))] := hD
          refine lv_aload_n hx hb dX13_aside_178 rfl (lv_at hl 2 rfl) ?_
          refine va_get (D := (dC, dI)) (ci := 13) (v := .ref qf116) (C := RX13) (T := TX13) (N := 155) hx hb hts uV_h9_X13 hown hK hP 0 rfl rfl 116 (by decide) (hts (.fieldLink RX13 248 "ClassMillModel" "kept" "[I") mw_h9_277) (fun _ h9 => h9) hfh_107_116 dX13_aside_179 ?_
          refine lv_iload_n hx hb dX13_aside_182 rfl (lv_at hl 1 rfl) ?_
          refine lv_bipush (v := 41) hx hb dX13_aside_183 (by decide) ?_
          refine lv_iadd hx hb dX13_aside_185 ?_
          refine lv_iload_n hx hb dX13_aside_186 rfl (lv_at hl 0 rfl) ?_
          refine lv_iadd hx hb dX13_aside_187 ?_
          refine lv_aload_n hx hb dX13_aside_188 rfl (lv_at hl 2 rfl) ?_
          refine va_get (D := (dC, dI)) (ci := 13) (v := .ref qf111) (C := RX13) (T := TX13) (N := 155) hx hb hts uV_h9_X13 hown hK hP 0 rfl rfl 111 (by decide) (hts (.fieldLink RX13 242 "ClassMillModel" "framesAt" "[I") mw_h9_284) (fun _ h9 => h9) hfh_107_111 dX13_aside_189 ?_
          refine lv_bipush (v := 12) hx hb dX13_aside_192 (by decide) ?_
          refine lv_iload_n hx hb dX13_aside_194 rfl (lv_at hl 3 rfl) ?_
          refine lv_imul hx hb dX13_aside_195 ?_
          refine lv_iload_n hx hb dX13_aside_196 rfl (lv_at hl 0 rfl) ?_
          refine lv_iadd hx hb dX13_aside_197 ?_
          obtain ⟨hi_18, hsp⟩ := ox_in hsp
          refine va_iald hx hb hK hP 10 9 rfl rfl (i := ((12 * l1_107) + l3_107)) hi_18 dX13_aside_198 ?_
          obtain ⟨hi_19, hsp⟩ := ox_in hsp
          refine va_iast hx hb hK hP hD hS 2 1 rfl rfl (i := ((l2_107 + 41) + l3_107)) (x := (f111 (((12 * l1_107) + l3_107) : Int32).toNatClampNeg)) hi_19 dX13_aside_199 ?_
          clear hP hD hS
          intro H locs hP hD hS
          replace hP : va_P (dC, dI) vwCl [(h0, .inr (13, z107)), (qf103, .inl (cf103, 8, .inl f103)), (qf116, .inl (cf116, 309, .inl (upd (upd (upd (upd g116_107 (((l2_107 + 5) + l3_107) : Int32).toNatClampNeg (f107 (((12 * l1_107) + l3_107) : Int32).toNatClampNeg)) (((l2_107 + 17) + l3_107) : Int32).toNatClampNeg (f109 (((12 * l1_107) + l3_107) : Int32).toNatClampNeg)) (((l2_107 + 29) + l3_107) : Int32).toNatClampNeg (f110 (((12 * l1_107) + l3_107) : Int32).toNatClampNeg)) (((l2_107 + 41) + l3_107) : Int32).toNatClampNeg (f111 (((12 * l1_107) + l3_107) : Int32).toNatClampNeg)))), (qf104, .inl (cf104, 8, .inl f104)), (qf105, .inl (cf105, 8, .inl f105)), (qf106, .inl (cf106, 8, .inl f106)), (qf108, .inl (cf108, 8, .inl f108)), (qf107, .inl (cf107, 96, .inl f107)), (qf109, .inl (cf109, 96, .inl f109)), (qf110, .inl (cf110, 96, .inl f110)), (qf111, .inl (cf111, 96, .inl f111)), (qf102, .inl (cf102, 2048, .inl f102))] H := hP
          replace hD : va_D A [(h0, .inr (13, z107)), (qf103, .inl (cf103, 8, .inl f103)), (qf116, .inl (cf116, 309, .inl (upd (upd (upd (upd g116_107 (((l2_107 + 5) + l3_107) : Int32).toNatClampNeg (f107 (((12 * l1_107) + l3_107) : Int32).toNatClampNeg)) (((l2_107 + 17) + l3_107) : Int32).toNatClampNeg (f109 (((12 * l1_107) + l3_107) : Int32).toNatClampNeg)) (((l2_107 + 29) + l3_107) : Int32).toNatClampNeg (f110 (((12 * l1_107) + l3_107) : Int32).toNatClampNeg)) (((l2_107 + 41) + l3_107) : Int32).toNatClampNeg (f111 (((12 * l1_107) + l3_107) : Int32).toNatClampNeg)))), (qf104, .inl (cf104, 8, .inl f104)), (qf105, .inl (cf105, 8, .inl f105)), (qf106, .inl (cf106, 8, .inl f106)), (qf108, .inl (cf108, 8, .inl f108)), (qf107, .inl (cf107, 96, .inl f107)), (qf109, .inl (cf109, 96, .inl f109)), (qf110, .inl (cf110, 96, .inl f110)), (qf111, .inl (cf111, 96, .inl f111)), (qf102, .inl (cf102, 2048, .inl f102))] := hD
          refine lv_iinc (v := (l3_107 + 1)) (lv' := [(3, .int (l3_107 + 1)), (2, .int l2_107), (0, .ref h0), (1, .int l1_107)]) hx hb dX13_aside_200 hl (k := 0) rfl rfl (by decide) rfl (fun ls hl => ?_)
          refine lv_goto (tgt := 107) hx hb dX13_aside_203 (by decide) ?_
          exact ih_107 H locs ls z107 l1_107 l2_107 (l3_107 + 1) (upd (upd (upd (upd g116_107 (((l2_107 + 5) + l3_107) : Int32).toNatClampNeg (f107 (((12 * l1_107) + l3_107) : Int32).toNatClampNeg)) (((l2_107 + 17) + l3_107) : Int32).toNatClampNeg (f109 (((12 * l1_107) + l3_107) : Int32).toNatClampNeg)) (((l2_107 + 29) + l3_107) : Int32).toNatClampNeg (f110 (((12 * l1_107) + l3_107) : Int32).toNatClampNeg)) (((l2_107 + 41) + l3_107) : Int32).toNatClampNeg (f111 (((12 * l1_107) + l3_107) : Int32).toNatClampNeg)) (hfh_107_102) (hfh_107_103) (hfh_107_104) (hfh_107_105) (hfh_107_106) (hfh_107_107) (hfh_107_108) (hfh_107_109) (hfh_107_110) (hfh_107_111) (hfh_107_116) hlh_107 hrh_107 (lv_sub hl [0, 1, 2, 3] rfl) hS (hD.sub (ws' := [(h0, .inr (13, z107)), (qf103, .inl (cf103, 8, .inl f103)), (qf116, .inl (cf116, 309, .inl (upd (upd (upd (upd g116_107 (((l2_107 + 5) + l3_107) : Int32).toNatClampNeg (f107 (((12 * l1_107) + l3_107) : Int32).toNatClampNeg)) (((l2_107 + 17) + l3_107) : Int32).toNatClampNeg (f109 (((12 * l1_107) + l3_107) : Int32).toNatClampNeg)) (((l2_107 + 29) + l3_107) : Int32).toNatClampNeg (f110 (((12 * l1_107) + l3_107) : Int32).toNatClampNeg)) (((l2_107 + 41) + l3_107) : Int32).toNatClampNeg (f111 (((12 * l1_107) + l3_107) : Int32).toNatClampNeg)))), (qf104, .inl (cf104, 8, .inl f104)), (qf105, .inl (cf105, 8, .inl f105)), (qf106, .inl (cf106, 8, .inl f106)), (qf108, .inl (cf108, 8, .inl f108)), (qf107, .inl (cf107, 96, .inl f107)), (qf109, .inl (cf109, 96, .inl f109)), (qf110, .inl (cf110, 96, .inl f110)), (qf111, .inl (cf111, 96, .inl f111)), (qf102, .inl (cf102, 2048, .inl f102))]) [0, 1, 2, 3, 4, 5, 6, 7, 8, 9, 10, 11] (by decide) rfl) (hP.sub (ws' := [(h0, .inr (13, z107)), (qf103, .inl (cf103, 8, .inl f103)), (qf116, .inl (cf116, 309, .inl (upd (upd (upd (upd g116_107 (((l2_107 + 5) + l3_107) : Int32).toNatClampNeg (f107 (((12 * l1_107) + l3_107) : Int32).toNatClampNeg)) (((l2_107 + 17) + l3_107) : Int32).toNatClampNeg (f109 (((12 * l1_107) + l3_107) : Int32).toNatClampNeg)) (((l2_107 + 29) + l3_107) : Int32).toNatClampNeg (f110 (((12 * l1_107) + l3_107) : Int32).toNatClampNeg)) (((l2_107 + 41) + l3_107) : Int32).toNatClampNeg (f111 (((12 * l1_107) + l3_107) : Int32).toNatClampNeg)))), (qf104, .inl (cf104, 8, .inl f104)), (qf105, .inl (cf105, 8, .inl f105)), (qf106, .inl (cf106, 8, .inl f106)), (qf108, .inl (cf108, 8, .inl f108)), (qf107, .inl (cf107, 96, .inl f107)), (qf109, .inl (cf109, 96, .inl f109)), (qf110, .inl (cf110, 96, .inl f110)), (qf111, .inl (cf111, 96, .inl f111)), (qf102, .inl (cf102, 2048, .inl f102))]) [0, 1, 2, 3, 4, 5, 6, 7, 8, 9, 10, 11] rfl) hsp
    · rw [if_neg c_1] at hsp
      refine lv_aload_n hx hb dX13_aside_9 rfl (lv_at hl 1 rfl) ?_
      refine va_get (D := (dC, dI)) (ci := 13) (v := .ref qf116) (C := RX13) (T := TX13) (N := 155) hx hb hts uV_h9_X13 hown hK hP 0 rfl rfl 116 (by decide) (hts (.fieldLink RX13 248 "ClassMillModel" "kept" "[I") mw_h9_277) (fun _ h9 => h9) hfh_2_116 dX13_aside_10 ?_
      refine lv_iload_n hx hb dX13_aside_13 rfl (lv_at hl 0 rfl) ?_
      refine lv_aload_n hx hb dX13_aside_14 rfl (lv_at hl 1 rfl) ?_
      refine va_get (D := (dC, dI)) (ci := 13) (v := .ref qf102) (C := RX13) (T := TX13) (N := 155) hx hb hts uV_h9_X13 hown hK hP 0 rfl rfl 102 (by decide) (hts (.fieldLink RX13 215 "ClassMillModel" "constantAt" "[I") mw_h9_267) (fun _ h9 => h9) hfh_2_102 dX13_aside_15 ?_
      refine lv_sipush (v := 256) hx hb dX13_aside_18 (by decide) ?_
      refine lv_iload_n hx hb dX13_aside_21 rfl (lv_at hl 2 rfl) ?_
      refine lv_imul hx hb dX13_aside_22 ?_
      refine lv_iload_n hx hb dX13_aside_23 rfl (lv_at hl 0 rfl) ?_
      refine lv_iadd hx hb dX13_aside_24 ?_
      obtain ⟨hi_20, hsp⟩ := ox_in hsp
      refine va_iald hx hb hK hP 11 10 rfl rfl (i := ((256 * l1_2) + l2_2)) hi_20 dX13_aside_25 ?_
      obtain ⟨hi_21, hsp⟩ := ox_in hsp
      refine va_iast hx hb hK hP hD hS 2 1 rfl rfl (i := l2_2) (x := (f102 (((256 * l1_2) + l2_2) : Int32).toNatClampNeg)) hi_21 dX13_aside_26 ?_
      clear hP hD hS
      intro H locs hP hD hS
      replace hP : va_P (dC, dI) vwCl [(h0, .inr (13, z2)), (qf103, .inl (cf103, 8, .inl f103)), (qf116, .inl (cf116, 309, .inl (upd g116_2 (l2_2 : Int32).toNatClampNeg (f102 (((256 * l1_2) + l2_2) : Int32).toNatClampNeg)))), (qf104, .inl (cf104, 8, .inl f104)), (qf105, .inl (cf105, 8, .inl f105)), (qf106, .inl (cf106, 8, .inl f106)), (qf108, .inl (cf108, 8, .inl f108)), (qf107, .inl (cf107, 96, .inl f107)), (qf109, .inl (cf109, 96, .inl f109)), (qf110, .inl (cf110, 96, .inl f110)), (qf111, .inl (cf111, 96, .inl f111)), (qf102, .inl (cf102, 2048, .inl f102))] H := hP
      replace hD : va_D A [(h0, .inr (13, z2)), (qf103, .inl (cf103, 8, .inl f103)), (qf116, .inl (cf116, 309, .inl (upd g116_2 (l2_2 : Int32).toNatClampNeg (f102 (((256 * l1_2) + l2_2) : Int32).toNatClampNeg)))), (qf104, .inl (cf104, 8, .inl f104)), (qf105, .inl (cf105, 8, .inl f105)), (qf106, .inl (cf106, 8, .inl f106)), (qf108, .inl (cf108, 8, .inl f108)), (qf107, .inl (cf107, 96, .inl f107)), (qf109, .inl (cf109, 96, .inl f109)), (qf110, .inl (cf110, 96, .inl f110)), (qf111, .inl (cf111, 96, .inl f111)), (qf102, .inl (cf102, 2048, .inl f102))] := hD
      refine lv_iinc (v := (l2_2 + 1)) (lv' := [(2, .int (l2_2 + 1)), (0, .ref h0), (1, .int l1_2)]) hx hb dX13_aside_27 hl (k := 0) rfl rfl (by decide) rfl (fun ls hl => ?_)
      refine lv_goto (tgt := 2) hx hb dX13_aside_30 (by decide) ?_
      exact ih_2 H locs ls z2 l1_2 (l2_2 + 1) (upd g116_2 (l2_2 : Int32).toNatClampNeg (f102 (((256 * l1_2) + l2_2) : Int32).toNatClampNeg)) (hfh_2_102) (hfh_2_103) (hfh_2_104) (hfh_2_105) (hfh_2_106) (hfh_2_107) (hfh_2_108) (hfh_2_109) (hfh_2_110) (hfh_2_111) (hfh_2_116) hlh_2 hrh_2 (lv_sub hl [0, 1, 2] rfl) hS (hD.sub (ws' := [(h0, .inr (13, z2)), (qf103, .inl (cf103, 8, .inl f103)), (qf116, .inl (cf116, 309, .inl (upd g116_2 (l2_2 : Int32).toNatClampNeg (f102 (((256 * l1_2) + l2_2) : Int32).toNatClampNeg)))), (qf104, .inl (cf104, 8, .inl f104)), (qf105, .inl (cf105, 8, .inl f105)), (qf106, .inl (cf106, 8, .inl f106)), (qf108, .inl (cf108, 8, .inl f108)), (qf107, .inl (cf107, 96, .inl f107)), (qf109, .inl (cf109, 96, .inl f109)), (qf110, .inl (cf110, 96, .inl f110)), (qf111, .inl (cf111, 96, .inl f111)), (qf102, .inl (cf102, 2048, .inl f102))]) [0, 1, 2, 3, 4, 5, 6, 7, 8, 9, 10, 11] (by decide) rfl) (hP.sub (ws' := [(h0, .inr (13, z2)), (qf103, .inl (cf103, 8, .inl f103)), (qf116, .inl (cf116, 309, .inl (upd g116_2 (l2_2 : Int32).toNatClampNeg (f102 (((256 * l1_2) + l2_2) : Int32).toNatClampNeg)))), (qf104, .inl (cf104, 8, .inl f104)), (qf105, .inl (cf105, 8, .inl f105)), (qf106, .inl (cf106, 8, .inl f106)), (qf108, .inl (cf108, 8, .inl f108)), (qf107, .inl (cf107, 96, .inl f107)), (qf109, .inl (cf109, 96, .inl f109)), (qf110, .inl (cf110, 96, .inl f110)), (qf111, .inl (cf111, 96, .inl f111)), (qf102, .inl (cf102, 2048, .inl f102))]) [0, 1, 2, 3, 4, 5, 6, 7, 8, 9, 10, 11] rfl) hsp
def lp_vm_again_107 (nf n : Nat) (a1 : Int32) (f116 : Nat → Int32) (f103 : Nat → Int32) (f104 : Nat → Int32) (f105 : Nat → Int32) (f106 : Nat → Int32) (f108 : Nat → Int32) (f107 : Nat → Int32) (f109 : Nat → Int32) (f110 : Nat → Int32) (f111 : Nat → Int32) (f102 : Nat → Int32)  (l1_107 : Int32) (l2_107 : Int32) (l3_107 : Int32) (g102_107 : Nat → Int32) (g103_107 : Nat → Int32) (g104_107 : Nat → Int32) (g105_107 : Nat → Int32) (g106_107 : Nat → Int32) (g107_107 : Nat → Int32) (g108_107 : Nat → Int32) (g109_107 : Nat → Int32) (g110_107 : Nat → Int32) (g111_107 : Nat → Int32) : Option ((Nat → Int32) × (Nat → Int32) × (Nat → Int32) × (Nat → Int32) × (Nat → Int32) × (Nat → Int32) × (Nat → Int32) × (Nat → Int32) × (Nat → Int32) × (Nat → Int32)) := match n with
  | 0 => none
  | n + 1 => (if 12 ≤ l3_107 then (some (g102_107, g103_107, g104_107, g105_107, g106_107, g107_107, g108_107, g109_107, g110_107, g111_107)) else (if ((l2_107 + 5) + l3_107) < 0 then none else if 309 ≤ (((l2_107 + 5) + l3_107) : Int32).toNatClampNeg then none else (if ((12 * l1_107) + l3_107) < 0 then none else if 96 ≤ (((12 * l1_107) + l3_107) : Int32).toNatClampNeg then none else (if ((l2_107 + 17) + l3_107) < 0 then none else if 309 ≤ (((l2_107 + 17) + l3_107) : Int32).toNatClampNeg then none else (if ((12 * l1_107) + l3_107) < 0 then none else if 96 ≤ (((12 * l1_107) + l3_107) : Int32).toNatClampNeg then none else (if ((l2_107 + 29) + l3_107) < 0 then none else if 309 ≤ (((l2_107 + 29) + l3_107) : Int32).toNatClampNeg then none else (if ((12 * l1_107) + l3_107) < 0 then none else if 96 ≤ (((12 * l1_107) + l3_107) : Int32).toNatClampNeg then none else (if ((l2_107 + 41) + l3_107) < 0 then none else if 309 ≤ (((l2_107 + 41) + l3_107) : Int32).toNatClampNeg then none else (if ((12 * l1_107) + l3_107) < 0 then none else if 96 ≤ (((12 * l1_107) + l3_107) : Int32).toNatClampNeg then none else (lp_vm_again_107 nf n a1 f116 f103 f104 f105 f106 f108 f107 f109 f110 f111 f102 l1_107 l2_107 (l3_107 + 1) g102_107 g103_107 g104_107 g105_107 g106_107 (upd g107_107 (((12 * l1_107) + l3_107) : Int32).toNatClampNeg (f116 (((l2_107 + 5) + l3_107) : Int32).toNatClampNeg)) g108_107 (upd g109_107 (((12 * l1_107) + l3_107) : Int32).toNatClampNeg (f116 (((l2_107 + 17) + l3_107) : Int32).toNatClampNeg)) (upd g110_107 (((12 * l1_107) + l3_107) : Int32).toNatClampNeg (f116 (((l2_107 + 29) + l3_107) : Int32).toNatClampNeg)) (upd g111_107 (((12 * l1_107) + l3_107) : Int32).toNatClampNeg (f116 (((l2_107 + 41) + l3_107) : Int32).toNatClampNeg))))))))))))
def lp_vm_again_2 (nf n : Nat) (a1 : Int32) (f116 : Nat → Int32) (f103 : Nat → Int32) (f104 : Nat → Int32) (f105 : Nat → Int32) (f106 : Nat → Int32) (f108 : Nat → Int32) (f107 : Nat → Int32) (f109 : Nat → Int32) (f110 : Nat → Int32) (f111 : Nat → Int32) (f102 : Nat → Int32)  (l1_2 : Int32) (l2_2 : Int32) (g102_2 : Nat → Int32) (g103_2 : Nat → Int32) (g104_2 : Nat → Int32) (g105_2 : Nat → Int32) (g106_2 : Nat → Int32) (g107_2 : Nat → Int32) (g108_2 : Nat → Int32) (g109_2 : Nat → Int32) (g110_2 : Nat → Int32) (g111_2 : Nat → Int32) : Option ((Nat → Int32) × (Nat → Int32) × (Nat → Int32) × (Nat → Int32) × (Nat → Int32) × (Nat → Int32) × (Nat → Int32) × (Nat → Int32) × (Nat → Int32) × (Nat → Int32)) := match n with
  | 0 => none
  | n + 1 => (if 256 ≤ l2_2 then (if l1_2 < 0 then none else if 8 ≤ (l1_2 : Int32).toNatClampNeg then none else (if l1_2 < 0 then none else if 8 ≤ (l1_2 : Int32).toNatClampNeg then none else (if l1_2 < 0 then none else if 8 ≤ (l1_2 : Int32).toNatClampNeg then none else (if l1_2 < 0 then none else if 8 ≤ (l1_2 : Int32).toNatClampNeg then none else (if l1_2 < 0 then none else if 8 ≤ (l1_2 : Int32).toNatClampNeg then none else (lp_vm_again_107 nf nf a1 f116 f103 f104 f105 f106 f108 f107 f109 f110 f111 f102  l1_2 256 0 g102_2 (upd g103_2 (l1_2 : Int32).toNatClampNeg (f116 (256 : Int32).toNatClampNeg)) (upd g104_2 (l1_2 : Int32).toNatClampNeg (f116 (257 : Int32).toNatClampNeg)) (upd g105_2 (l1_2 : Int32).toNatClampNeg (f116 (258 : Int32).toNatClampNeg)) (upd g106_2 (l1_2 : Int32).toNatClampNeg (f116 (259 : Int32).toNatClampNeg)) g107_2 (upd g108_2 (l1_2 : Int32).toNatClampNeg (f116 (260 : Int32).toNatClampNeg)) g109_2 g110_2 g111_2)))))) else (if l2_2 < 0 then none else if 309 ≤ (l2_2 : Int32).toNatClampNeg then none else (if ((256 * l1_2) + l2_2) < 0 then none else if 2048 ≤ (((256 * l1_2) + l2_2) : Int32).toNatClampNeg then none else (lp_vm_again_2 nf n a1 f116 f103 f104 f105 f106 f108 f107 f109 f110 f111 f102 l1_2 (l2_2 + 1) (upd g102_2 (((256 * l1_2) + l2_2) : Int32).toNatClampNeg (f116 (l2_2 : Int32).toNatClampNeg)) g103_2 g104_2 g105_2 g106_2 g107_2 g108_2 g109_2 g110_2 g111_2))))
def sp_vm_again (nf : Nat) (a1 : Int32) (f116 : Nat → Int32) (f103 : Nat → Int32) (f104 : Nat → Int32) (f105 : Nat → Int32) (f106 : Nat → Int32) (f108 : Nat → Int32) (f107 : Nat → Int32) (f109 : Nat → Int32) (f110 : Nat → Int32) (f111 : Nat → Int32) (f102 : Nat → Int32) : Option ((Nat → Int32) × (Nat → Int32) × (Nat → Int32) × (Nat → Int32) × (Nat → Int32) × (Nat → Int32) × (Nat → Int32) × (Nat → Int32) × (Nat → Int32) × (Nat → Int32)) := (lp_vm_again_2 nf nf a1 f116 f103 f104 f105 f106 f108 f107 f109 f110 f111 f102  a1 0 f102 f103 f104 f105 f106 f107 f108 f109 f110 f111)
set_option maxHeartbeats 4000000 in
set_option maxRecDepth 100000 in
/-- ClassMillModel.again -/
theorem vm_again (l : Launch) (dC : Nat → ClassId) (dI : Nat → Nat → Nat) (sz : Nat) (h0 : Nat) (zs : (List Value)) (a1 : Int32) (qf102 : Nat) (qf103 : Nat) (qf104 : Nat) (qf105 : Nat) (qf106 : Nat) (qf107 : Nat) (qf108 : Nat) (qf109 : Nat) (qf110 : Nat) (qf111 : Nat) (qf116 : Nat) (cf116 : ClassId) (f116 : (Nat → Int32)) (cf103 : ClassId) (f103 : (Nat → Int32)) (cf104 : ClassId) (f104 : (Nat → Int32)) (cf105 : ClassId) (f105 : (Nat → Int32)) (cf106 : ClassId) (f106 : (Nat → Int32)) (cf108 : ClassId) (f108 : (Nat → Int32)) (cf107 : ClassId) (f107 : (Nat → Int32)) (cf109 : ClassId) (f109 : (Nat → Int32)) (cf110 : ClassId) (f110 : (Nat → Int32)) (cf111 : ClassId) (f111 : (Nat → Int32)) (cf102 : ClassId) (f102 : (Nat → Int32)) (nf : Nat) (o102 : (Nat → Int32)) (o103 : (Nat → Int32)) (o104 : (Nat → Int32)) (o105 : (Nat → Int32)) (o106 : (Nat → Int32)) (o107 : (Nat → Int32)) (o108 : (Nat → Int32)) (o109 : (Nat → Int32)) (o110 : (Nat → Int32)) (o111 : (Nat → Int32)) (hlen : zs.length = 155) (hf102 : zs[102]? = some (.ref qf102)) (hf103 : zs[103]? = some (.ref qf103)) (hf104 : zs[104]? = some (.ref qf104)) (hf105 : zs[105]? = some (.ref qf105)) (hf106 : zs[106]? = some (.ref qf106)) (hf107 : zs[107]? = some (.ref qf107)) (hf108 : zs[108]? = some (.ref qf108)) (hf109 : zs[109]? = some (.ref qf109)) (hf110 : zs[110]? = some (.ref qf110)) (hf111 : zs[111]? = some (.ref qf111)) (hf116 : zs[116]? = some (.ref qf116)) (hsp : sp_vm_again nf a1 f116 f103 f104 f105 f106 f108 f107 f109 f110 f111 f102 = some (o102, o103, o104, o105, o106, o107, o108, o109, o110, o111)) : Met l yX13_again (.code yX13_again cX13_again 4 none :: VS_h9) ({ frames := 0, cells := 0, slots := 0, locals := 0 }) (va_Pc [.ref h0, .int a1] (fun U => U.heap.size = sz ∧ va_P (dC, dI) vwCl [(h0, .inr (13, zs)), (qf116, .inl (cf116, 309, .inl f116)), (qf103, .inl (cf103, 8, .inl f103)), (qf104, .inl (cf104, 8, .inl f104)), (qf105, .inl (cf105, 8, .inl f105)), (qf106, .inl (cf106, 8, .inl f106)), (qf108, .inl (cf108, 8, .inl f108)), (qf107, .inl (cf107, 96, .inl f107)), (qf109, .inl (cf109, 96, .inl f109)), (qf110, .inl (cf110, 96, .inl f110)), (qf111, .inl (cf111, 96, .inl f111)), (qf102, .inl (cf102, 2048, .inl f102))] U.heap ∧ va_K (dC, dI) vwCl [(cf116, .int), (cf103, .int), (cf104, .int), (cf105, .int), (cf106, .int), (cf108, .int), (cf107, .int), (cf109, .int), (cf110, .int), (cf111, .int), (cf102, .int)] U ∧ va_D (fun _ => True) [(h0, .inr (13, zs)), (qf116, .inl (cf116, 309, .inl f116)), (qf103, .inl (cf103, 8, .inl f103)), (qf104, .inl (cf104, 8, .inl f104)), (qf105, .inl (cf105, 8, .inl f105)), (qf106, .inl (cf106, 8, .inl f106)), (qf108, .inl (cf108, 8, .inl f108)), (qf107, .inl (cf107, 96, .inl f107)), (qf109, .inl (cf109, 96, .inl f109)), (qf110, .inl (cf110, 96, .inl f110)), (qf111, .inl (cf111, 96, .inl f111)), (qf102, .inl (cf102, 2048, .inl f102))])) (va_Qv (fun (u : (List Value)) => match u with | (zo1) => True ∧ zo1.length = 155 ∧ (∀ j : Nat, zo1[j]? = zs[j]?)) (fun (u : (List Value)) (t : State) => match u with | (zo1) => va_P (dC, dI) vwCl [(h0, .inr (13, zo1)), (qf116, .inl (cf116, 309, .inl f116)), (qf103, .inl (cf103, 8, .inl o103)), (qf104, .inl (cf104, 8, .inl o104)), (qf105, .inl (cf105, 8, .inl o105)), (qf106, .inl (cf106, 8, .inl o106)), (qf108, .inl (cf108, 8, .inl o108)), (qf107, .inl (cf107, 96, .inl o107)), (qf109, .inl (cf109, 96, .inl o109)), (qf110, .inl (cf110, 96, .inl o110)), (qf111, .inl (cf111, 96, .inl o111)), (qf102, .inl (cf102, 2048, .inl o102))] t.heap ∧ va_K (dC, dI) vwCl [(cf116, .int), (cf103, .int), (cf104, .int), (cf105, .int), (cf106, .int), (cf108, .int), (cf107, .int), (cf109, .int), (cf110, .int), (cf111, .int), (cf102, .int)] t ∧ va_D (va_A [(h0, .inr (13, zs)), (qf116, .inl (cf116, 309, .inl f116)), (qf103, .inl (cf103, 8, .inl f103)), (qf104, .inl (cf104, 8, .inl f104)), (qf105, .inl (cf105, 8, .inl f105)), (qf106, .inl (cf106, 8, .inl f106)), (qf108, .inl (cf108, 8, .inl f108)), (qf107, .inl (cf107, 96, .inl f107)), (qf109, .inl (cf109, 96, .inl f109)), (qf110, .inl (cf110, 96, .inl f110)), (qf111, .inl (cf111, 96, .inl f111)), (qf102, .inl (cf102, 2048, .inl f102))] sz) [(h0, .inr (13, zo1)), (qf116, .inl (cf116, 309, .inl f116)), (qf103, .inl (cf103, 8, .inl o103)), (qf104, .inl (cf104, 8, .inl o104)), (qf105, .inl (cf105, 8, .inl o105)), (qf106, .inl (cf106, 8, .inl o106)), (qf108, .inl (cf108, 8, .inl o108)), (qf107, .inl (cf107, 96, .inl o107)), (qf109, .inl (cf109, 96, .inl o109)), (qf110, .inl (cf110, 96, .inl o110)), (qf111, .inl (cf111, 96, .inl o111)), (qf102, .inl (cf102, 2048, .inl o102))]) (va_A [(h0, .inr (13, zs)), (qf116, .inl (cf116, 309, .inl f116)), (qf103, .inl (cf103, 8, .inl f103)), (qf104, .inl (cf104, 8, .inl f104)), (qf105, .inl (cf105, 8, .inl f105)), (qf106, .inl (cf106, 8, .inl f106)), (qf108, .inl (cf108, 8, .inl f108)), (qf107, .inl (cf107, 96, .inl f107)), (qf109, .inl (cf109, 96, .inl f109)), (qf110, .inl (cf110, 96, .inl f110)), (qf111, .inl (cf111, 96, .inl f111)), (qf102, .inl (cf102, 2048, .inl f102))] sz)) 0 0 (va_A [(h0, .inr (13, zs)), (qf116, .inl (cf116, 309, .inl f116)), (qf103, .inl (cf103, 8, .inl f103)), (qf104, .inl (cf104, 8, .inl f104)), (qf105, .inl (cf105, 8, .inl f105)), (qf106, .inl (cf106, 8, .inl f106)), (qf108, .inl (cf108, 8, .inl f108)), (qf107, .inl (cf107, 96, .inl f107)), (qf109, .inl (cf109, 96, .inl f109)), (qf110, .inl (cf110, 96, .inl f110)), (qf111, .inl (cf111, 96, .inl f111)), (qf102, .inl (cf102, 2048, .inl f102))] sz) := by
  refine Met.ofW (cc := cX13_again) (maxL := 4) (ret := none) (by decide) rfl ?_
  intro p e s m args below meth c s₁ B hml hv
  obtain ⟨rfl, hsz, hP, hK, hD0⟩ := hv
  have hx := B.exec
  have hb := B.bytes
  have hr := B.returns
  have hts := atoms_spec (ws := (.code yX13_again cX13_again 4 none :: VS_h9)) B.pre
  replace hts := fun w (h : w ∈ VS_h9) => hts w (List.mem_cons_of_mem _ h)
  have hown : s.vm.findClass RX13 = some m.cls := findClass_of_methodNamed B.named
  have hlocks := B.notSynchronized
  subst hsz
  have hD := hD0.self (sz := s.heap.size)
  generalize hAe : va_A [(h0, .inr (13, zs)), (qf116, .inl (cf116, 309, .inl f116)), (qf103, .inl (cf103, 8, .inl f103)), (qf104, .inl (cf104, 8, .inl f104)), (qf105, .inl (cf105, 8, .inl f105)), (qf106, .inl (cf106, 8, .inl f106)), (qf108, .inl (cf108, 8, .inl f108)), (qf107, .inl (cf107, 96, .inl f107)), (qf109, .inl (cf109, 96, .inl f109)), (qf110, .inl (cf110, 96, .inl f110)), (qf111, .inl (cf111, 96, .inl f111)), (qf102, .inl (cf102, 2048, .inl f102))] s.heap.size = A at hD  ⊢
  have hA : ∀ q : Nat, s.heap.size ≤ q → A q := fun q h => by rw [← hAe]; exact Or.inr h
  have hP : va_P (dC, dI) vwCl [(h0, .inr (13, zs)), (qf116, .inl (cf116, 309, .inl f116)), (qf103, .inl (cf103, 8, .inl f103)), (qf104, .inl (cf104, 8, .inl f104)), (qf105, .inl (cf105, 8, .inl f105)), (qf106, .inl (cf106, 8, .inl f106)), (qf108, .inl (cf108, 8, .inl f108)), (qf107, .inl (cf107, 96, .inl f107)), (qf109, .inl (cf109, 96, .inl f109)), (qf110, .inl (cf110, 96, .inl f110)), (qf111, .inl (cf111, 96, .inl f111)), (qf102, .inl (cf102, 2048, .inl f102))] s.heap := hP
  have hl := lv_entry ([.ref h0, .int a1]) (n := 4) (Nat.le_of_ble_eq_true rfl)
  rw [lg_entry_eq]
  generalize (lg_sl ([.ref h0, .int a1]) ++ List.replicate (4 - (lg_sl ([.ref h0, .int a1])).length) Slot.unset).toArray = ls at hl ⊢
  have hl : lv_has ls 4 [(0, .ref h0), (1, .int a1)] := hl
  obtain ⟨H, hH⟩ : ∃ H : Heap, s.heap = H := ⟨_, rfl⟩
  rw [hH] at hP ⊢
  have hS : va_S A s.heap H [] := by rw [← hH]; exact va_S.rf
  obtain ⟨locs, hlo⟩ : ∃ locs : List Loc, locs = [] := ⟨_, rfl⟩
  rw [← hlo] at hS ⊢
  have hrs0 : ∀ j : Nat, zs[j]? = zs[j]? := fun _  => rfl
  unfold sp_vm_again at hsp
  refine lv_iconst (v := 0) hx hb dX13_again_0 (by decide) ?_
  refine lv_istore_n (lv' := [(2, .int 0), (0, .ref h0), (1, .int a1)]) hx hb dX13_again_1 rfl hl (by decide) rfl (fun ls hl => ?_)
  replace hl : lv_has ls 4 [(2, .int 0), (0, .ref h0), (1, .int a1)] := lv_sub hl [0, 1, 2] rfl
  replace hP := hP.sub (ws' := [(h0, .inr (13, zs)), (qf116, .inl (cf116, 309, .inl f116)), (qf103, .inl (cf103, 8, .inl f103)), (qf104, .inl (cf104, 8, .inl f104)), (qf105, .inl (cf105, 8, .inl f105)), (qf106, .inl (cf106, 8, .inl f106)), (qf108, .inl (cf108, 8, .inl f108)), (qf107, .inl (cf107, 96, .inl f107)), (qf109, .inl (cf109, 96, .inl f109)), (qf110, .inl (cf110, 96, .inl f110)), (qf111, .inl (cf111, 96, .inl f111)), (qf102, .inl (cf102, 2048, .inl f102))]) [0, 1, 2, 3, 4, 5, 6, 7, 8, 9, 10, 11] rfl
  replace hD := hD.sub (ws' := [(h0, .inr (13, zs)), (qf116, .inl (cf116, 309, .inl f116)), (qf103, .inl (cf103, 8, .inl f103)), (qf104, .inl (cf104, 8, .inl f104)), (qf105, .inl (cf105, 8, .inl f105)), (qf106, .inl (cf106, 8, .inl f106)), (qf108, .inl (cf108, 8, .inl f108)), (qf107, .inl (cf107, 96, .inl f107)), (qf109, .inl (cf109, 96, .inl f109)), (qf110, .inl (cf110, 96, .inl f110)), (qf111, .inl (cf111, 96, .inl f111)), (qf102, .inl (cf102, 2048, .inl f102))]) [0, 1, 2, 3, 4, 5, 6, 7, 8, 9, 10, 11] (by decide) rfl
  replace hK := hK.sub (tys' := [(cf116, .int), (cf103, .int), (cf104, .int), (cf105, .int), (cf106, .int), (cf108, .int), (cf107, .int), (cf109, .int), (cf110, .int), (cf111, .int), (cf102, .int)]) [0, 1, 2, 3, 4, 5, 6, 7, 8, 9, 10] rfl
  obtain ⟨n_2, hn_2⟩ : ∃ z : Nat, z = nf := ⟨_, rfl⟩
  obtain ⟨l1_2, el1_2⟩ : ∃ z : Int32, z = a1 := ⟨_, rfl⟩
  obtain ⟨l2_2, el2_2⟩ : ∃ z : Int32, z = 0 := ⟨_, rfl⟩
  obtain ⟨g102_2, eg102_2⟩ : ∃ z : Nat → Int32, z = f102 := ⟨_, rfl⟩
  obtain ⟨g103_2, eg103_2⟩ : ∃ z : Nat → Int32, z = f103 := ⟨_, rfl⟩
  obtain ⟨g104_2, eg104_2⟩ : ∃ z : Nat → Int32, z = f104 := ⟨_, rfl⟩
  obtain ⟨g105_2, eg105_2⟩ : ∃ z : Nat → Int32, z = f105 := ⟨_, rfl⟩
  obtain ⟨g106_2, eg106_2⟩ : ∃ z : Nat → Int32, z = f106 := ⟨_, rfl⟩
  obtain ⟨g107_2, eg107_2⟩ : ∃ z : Nat → Int32, z = f107 := ⟨_, rfl⟩
  obtain ⟨g108_2, eg108_2⟩ : ∃ z : Nat → Int32, z = f108 := ⟨_, rfl⟩
  obtain ⟨g109_2, eg109_2⟩ : ∃ z : Nat → Int32, z = f109 := ⟨_, rfl⟩
  obtain ⟨g110_2, eg110_2⟩ : ∃ z : Nat → Int32, z = f110 := ⟨_, rfl⟩
  obtain ⟨g111_2, eg111_2⟩ : ∃ z : Nat → Int32, z = f111 := ⟨_, rfl⟩
  replace hsp : lp_vm_again_2 nf n_2 a1 f116 f103 f104 f105 f106 f108 f107 f109 f110 f111 f102 l1_2 l2_2 g102_2 g103_2 g104_2 g105_2 g106_2 g107_2 g108_2 g109_2 g110_2 g111_2 = some (o102, o103, o104, o105, o106, o107, o108, o109, o110, o111) := by rw [hn_2, el1_2, el2_2, eg102_2, eg103_2, eg104_2, eg105_2, eg106_2, eg107_2, eg108_2, eg109_2, eg110_2, eg111_2]; exact hsp
  replace hl : lv_has ls 4 [(2, .int l2_2), (0, .ref h0), (1, .int l1_2)] := by rw [el1_2, el2_2]; exact hl
  obtain ⟨z2, ez2⟩ : ∃ z : List Value, z = zs := ⟨_, rfl⟩
  have hfh_2_102 : z2[102]? = some (.ref qf102) := by rw [ez2]; exact hf102
  have hfh_2_103 : z2[103]? = some (.ref qf103) := by rw [ez2]; exact hf103
  have hfh_2_104 : z2[104]? = some (.ref qf104) := by rw [ez2]; exact hf104
  have hfh_2_105 : z2[105]? = some (.ref qf105) := by rw [ez2]; exact hf105
  have hfh_2_106 : z2[106]? = some (.ref qf106) := by rw [ez2]; exact hf106
  have hfh_2_107 : z2[107]? = some (.ref qf107) := by rw [ez2]; exact hf107
  have hfh_2_108 : z2[108]? = some (.ref qf108) := by rw [ez2]; exact hf108
  have hfh_2_109 : z2[109]? = some (.ref qf109) := by rw [ez2]; exact hf109
  have hfh_2_110 : z2[110]? = some (.ref qf110) := by rw [ez2]; exact hf110
  have hfh_2_111 : z2[111]? = some (.ref qf111) := by rw [ez2]; exact hf111
  have hfh_2_116 : z2[116]? = some (.ref qf116) := by rw [ez2]; exact hf116
  have hlh_2 : z2.length = 155 := by rw [ez2]; exact hlen
  have hrh_2 : ∀ j : Nat, z2[j]? = zs[j]? := by rw [ez2]; exact hrs0
  replace hP : va_P (dC, dI) vwCl [(h0, .inr (13, z2)), (qf116, .inl (cf116, 309, .inl f116)), (qf103, .inl (cf103, 8, .inl g103_2)), (qf104, .inl (cf104, 8, .inl g104_2)), (qf105, .inl (cf105, 8, .inl g105_2)), (qf106, .inl (cf106, 8, .inl g106_2)), (qf108, .inl (cf108, 8, .inl g108_2)), (qf107, .inl (cf107, 96, .inl g107_2)), (qf109, .inl (cf109, 96, .inl g109_2)), (qf110, .inl (cf110, 96, .inl g110_2)), (qf111, .inl (cf111, 96, .inl g111_2)), (qf102, .inl (cf102, 2048, .inl g102_2))] H := by rw [ez2, eg102_2, eg103_2, eg104_2, eg105_2, eg106_2, eg107_2, eg108_2, eg109_2, eg110_2, eg111_2]; exact hP
  replace hD : va_D A [(h0, .inr (13, z2)), (qf116, .inl (cf116, 309, .inl f116)), (qf103, .inl (cf103, 8, .inl g103_2)), (qf104, .inl (cf104, 8, .inl g104_2)), (qf105, .inl (cf105, 8, .inl g105_2)), (qf106, .inl (cf106, 8, .inl g106_2)), (qf108, .inl (cf108, 8, .inl g108_2)), (qf107, .inl (cf107, 96, .inl g107_2)), (qf109, .inl (cf109, 96, .inl g109_2)), (qf110, .inl (cf110, 96, .inl g110_2)), (qf111, .inl (cf111, 96, .inl g111_2)), (qf102, .inl (cf102, 2048, .inl g102_2))] := by rw [ez2, eg102_2, eg103_2, eg104_2, eg105_2, eg106_2, eg107_2, eg108_2, eg109_2, eg110_2, eg111_2]; exact hD
  clear hn_2 ez2 el1_2 el2_2 eg102_2 eg103_2 eg104_2 eg105_2 eg106_2 eg107_2 eg108_2 eg109_2 eg110_2 eg111_2
  try clear hlo
  try clear hH
  revert hsp
  revert hP
  revert hD
  revert hS
  revert hl
  revert hrh_2
  revert hlh_2
  revert hfh_2_116
  revert hfh_2_111
  revert hfh_2_110
  revert hfh_2_109
  revert hfh_2_108
  revert hfh_2_107
  revert hfh_2_106
  revert hfh_2_105
  revert hfh_2_104
  revert hfh_2_103
  revert hfh_2_102
  revert g111_2
  revert g110_2
  revert g109_2
  revert g108_2
  revert g107_2
  revert g106_2
  revert g105_2
  revert g104_2
  revert g103_2
  revert g102_2
  revert l2_2
  revert l1_2
  revert z2
  revert ls
  revert locs
  revert H
  induction n_2 with
  | zero => intro H locs ls z2 l1_2 l2_2 g102_2 g103_2 g104_2 g105_2 g106_2 g107_2 g108_2 g109_2 g110_2 g111_2 hfh_2_102 hfh_2_103 hfh_2_104 hfh_2_105 hfh_2_106 hfh_2_107 hfh_2_108 hfh_2_109 hfh_2_110 hfh_2_111 hfh_2_116 hlh_2 hrh_2 hl hS hD hP hsp; unfold lp_vm_again_2 at hsp; cases hsp
  | succ n_2 ih_2 =>
    intro H locs ls z2 l1_2 l2_2 g102_2 g103_2 g104_2 g105_2 g106_2 g107_2 g108_2 g109_2 g110_2 g111_2 hfh_2_102 hfh_2_103 hfh_2_104 hfh_2_105 hfh_2_106 hfh_2_107 hfh_2_108 hfh_2_109 hfh_2_110 hfh_2_111 hfh_2_116 hlh_2 hrh_2 hl hS hD hP hsp
    unfold lp_vm_again_2 at hsp
    try dsimp only at hsp
    refine lv_iload_n hx hb dX13_again_2 rfl (lv_at hl 0 rfl) ?_
    refine lv_sipush (v := 256) hx hb dX13_again_3 (by decide) ?_
    refine lv_icmp_ge (tgt := 33) hx hb dX13_again_6 (by decide) (fun c_1 => ?_) (fun c_1 => ?_)
    · rw [if_pos c_1] at hsp
      refine lv_sipush (v := 256) hx hb dX13_again_33 (by decide) ?_
      refine lv_istore_n (lv' := [(2, .int 256), (0, .ref h0), (1, .int l1_2)]) hx hb dX13_again_36 rfl hl (by decide) rfl (fun ls hl => ?_)
      refine lv_aload_n hx hb dX13_again_37 rfl (lv_at hl 1 rfl) ?_
      refine va_get (D := (dC, dI)) (ci := 13) (v := .ref qf103) (C := RX13) (T := TX13) (N := 155) hx hb hts uV_h9_X13 hown hK hP 0 rfl rfl 103 (by decide) (hts (.fieldLink RX13 218 "ClassMillModel" "constantMany" "[I") mw_h9_278) (fun _ h9 => h9) hfh_2_103 dX13_again_38 ?_
      refine lv_iload_n hx hb dX13_again_41 rfl (lv_at hl 2 rfl) ?_
      refine lv_aload_n hx hb dX13_again_42 rfl (lv_at hl 1 rfl) ?_
      refine va_get (D := (dC, dI)) (ci := 13) (v := .ref qf116) (C := RX13) (T := TX13) (N := 155) hx hb hts uV_h9_X13 hown hK hP 0 rfl rfl 116 (by decide) (hts (.fieldLink RX13 248 "ClassMillModel" "kept" "[I") mw_h9_277) (fun _ h9 => h9) hfh_2_116 dX13_again_43 ?_
      refine lv_iload_n hx hb dX13_again_46 rfl (lv_at hl 0 rfl) ?_
      refine va_iald hx hb hK hP 1 0 rfl rfl (i := 256) (by unfold vp_in; decide) dX13_again_47 ?_
      obtain ⟨hi_2, hsp⟩ := ox_in hsp
      refine va_iast hx hb hK hP hD hS 2 1 rfl rfl (i := l1_2) (x := (f116 (256 : Int32).toNatClampNeg)) hi_2 dX13_again_48 ?_
      clear hP hD hS
      intro H locs hP hD hS
      replace hP : va_P (dC, dI) vwCl [(h0, .inr (13, z2)), (qf116, .inl (cf116, 309, .inl f116)), (qf103, .inl (cf103, 8, .inl (upd g103_2 (l1_2 : Int32).toNatClampNeg (f116 (256 : Int32).toNatClampNeg)))), (qf104, .inl (cf104, 8, .inl g104_2)), (qf105, .inl (cf105, 8, .inl g105_2)), (qf106, .inl (cf106, 8, .inl g106_2)), (qf108, .inl (cf108, 8, .inl g108_2)), (qf107, .inl (cf107, 96, .inl g107_2)), (qf109, .inl (cf109, 96, .inl g109_2)), (qf110, .inl (cf110, 96, .inl g110_2)), (qf111, .inl (cf111, 96, .inl g111_2)), (qf102, .inl (cf102, 2048, .inl g102_2))] H := hP
      replace hD : va_D A [(h0, .inr (13, z2)), (qf116, .inl (cf116, 309, .inl f116)), (qf103, .inl (cf103, 8, .inl (upd g103_2 (l1_2 : Int32).toNatClampNeg (f116 (256 : Int32).toNatClampNeg)))), (qf104, .inl (cf104, 8, .inl g104_2)), (qf105, .inl (cf105, 8, .inl g105_2)), (qf106, .inl (cf106, 8, .inl g106_2)), (qf108, .inl (cf108, 8, .inl g108_2)), (qf107, .inl (cf107, 96, .inl g107_2)), (qf109, .inl (cf109, 96, .inl g109_2)), (qf110, .inl (cf110, 96, .inl g110_2)), (qf111, .inl (cf111, 96, .inl g111_2)), (qf102, .inl (cf102, 2048, .inl g102_2))] := hD
      refine lv_aload_n hx hb dX13_again_49 rfl (lv_at hl 1 rfl) ?_
      refine va_get (D := (dC, dI)) (ci := 13) (v := .ref qf104) (C := RX13) (T := TX13) (N := 155) hx hb hts uV_h9_X13 hown hK hP 0 rfl rfl 104 (by decide) (hts (.fieldLink RX13 221 "ClassMillModel" "ownClass" "[I") mw_h9_279) (fun _ h9 => h9) hfh_2_104 dX13_again_50 ?_
      refine lv_iload_n hx hb dX13_again_53 rfl (lv_at hl 2 rfl) ?_
      refine lv_aload_n hx hb dX13_again_54 rfl (lv_at hl 1 rfl) ?_
      refine va_get (D := (dC, dI)) (ci := 13) (v := .ref qf116) (C := RX13) (T := TX13) (N := 155) hx hb hts uV_h9_X13 hown hK hP 0 rfl rfl 116 (by decide) (hts (.fieldLink RX13 248 "ClassMillModel" "kept" "[I") mw_h9_277) (fun _ h9 => h9) hfh_2_116 dX13_again_55 ?_
      refine lv_iload_n hx hb dX13_again_58 rfl (lv_at hl 0 rfl) ?_
      refine lv_iconst (v := 1) hx hb dX13_again_59 (by decide) ?_
      refine lv_iadd hx hb dX13_again_60 ?_
      refine lv_topi (fun y_3 ey_3 => ?_)
      obtain rfl : y_3 = 257 := ey_3.trans (by decide)
      refine va_iald hx hb hK hP 1 0 rfl rfl (i := 257) (by unfold vp_in; decide) dX13_again_61 ?_
      obtain ⟨hi_4, hsp⟩ := ox_in hsp
      refine va_iast hx hb hK hP hD hS 3 2 rfl rfl (i := l1_2) (x := (f116 (257 : Int32).toNatClampNeg)) hi_4 dX13_again_62 ?_
      clear hP hD hS
      intro H locs hP hD hS
      replace hP : va_P (dC, dI) vwCl [(h0, .inr (13, z2)), (qf116, .inl (cf116, 309, .inl f116)), (qf103, .inl (cf103, 8, .inl (upd g103_2 (l1_2 : Int32).toNatClampNeg (f116 (256 : Int32).toNatClampNeg)))), (qf104, .inl (cf104, 8, .inl (upd g104_2 (l1_2 : Int32).toNatClampNeg (f116 (257 : Int32).toNatClampNeg)))), (qf105, .inl (cf105, 8, .inl g105_2)), (qf106, .inl (cf106, 8, .inl g106_2)), (qf108, .inl (cf108, 8, .inl g108_2)), (qf107, .inl (cf107, 96, .inl g107_2)), (qf109, .inl (cf109, 96, .inl g109_2)), (qf110, .inl (cf110, 96, .inl g110_2)), (qf111, .inl (cf111, 96, .inl g111_2)), (qf102, .inl (cf102, 2048, .inl g102_2))] H := hP
      replace hD : va_D A [(h0, .inr (13, z2)), (qf116, .inl (cf116, 309, .inl f116)), (qf103, .inl (cf103, 8, .inl (upd g103_2 (l1_2 : Int32).toNatClampNeg (f116 (256 : Int32).toNatClampNeg)))), (qf104, .inl (cf104, 8, .inl (upd g104_2 (l1_2 : Int32).toNatClampNeg (f116 (257 : Int32).toNatClampNeg)))), (qf105, .inl (cf105, 8, .inl g105_2)), (qf106, .inl (cf106, 8, .inl g106_2)), (qf108, .inl (cf108, 8, .inl g108_2)), (qf107, .inl (cf107, 96, .inl g107_2)), (qf109, .inl (cf109, 96, .inl g109_2)), (qf110, .inl (cf110, 96, .inl g110_2)), (qf111, .inl (cf111, 96, .inl g111_2)), (qf102, .inl (cf102, 2048, .inl g102_2))] := hD
      refine lv_aload_n hx hb dX13_again_63 rfl (lv_at hl 1 rfl) ?_
      refine va_get (D := (dC, dI)) (ci := 13) (v := .ref qf105) (C := RX13) (T := TX13) (N := 155) hx hb hts uV_h9_X13 hown hK hP 0 rfl rfl 105 (by decide) (hts (.fieldLink RX13 224 "ClassMillModel" "ownUpper" "[I") mw_h9_280) (fun _ h9 => h9) hfh_2_105 dX13_again_64 ?_
      refine lv_iload_n hx hb dX13_again_67 rfl (lv_at hl 2 rfl) ?_
      refine lv_aload_n hx hb dX13_again_68 rfl (lv_at hl 1 rfl) ?_
      refine va_get (D := (dC, dI)) (ci := 13) (v := .ref qf116) (C := RX13) (T := TX13) (N := 155) hx hb hts uV_h9_X13 hown hK hP 0 rfl rfl 116 (by decide) (hts (.fieldLink RX13 248 "ClassMillModel" "kept" "[I") mw_h9_277) (fun _ h9 => h9) hfh_2_116 dX13_again_69 ?_
      refine lv_iload_n hx hb dX13_again_72 rfl (lv_at hl 0 rfl) ?_
      refine lv_iconst (v := 2) hx hb dX13_again_73 (by decide) ?_
      refine lv_iadd hx hb dX13_again_74 ?_
      refine lv_topi (fun y_5 ey_5 => ?_)
      obtain rfl : y_5 = 258 := ey_5.trans (by decide)
      refine va_iald hx hb hK hP 1 0 rfl rfl (i := 258) (by unfold vp_in; decide) dX13_again_75 ?_
      obtain ⟨hi_6, hsp⟩ := ox_in hsp
      refine va_iast hx hb hK hP hD hS 4 3 rfl rfl (i := l1_2) (x := (f116 (258 : Int32).toNatClampNeg)) hi_6 dX13_again_76 ?_
      clear hP hD hS
      intro H locs hP hD hS
      replace hP : va_P (dC, dI) vwCl [(h0, .inr (13, z2)), (qf116, .inl (cf116, 309, .inl f116)), (qf103, .inl (cf103, 8, .inl (upd g103_2 (l1_2 : Int32).toNatClampNeg (f116 (256 : Int32).toNatClampNeg)))), (qf104, .inl (cf104, 8, .inl (upd g104_2 (l1_2 : Int32).toNatClampNeg (f116 (257 : Int32).toNatClampNeg)))), (qf105, .inl (cf105, 8, .inl (upd g105_2 (l1_2 : Int32).toNatClampNeg (f116 (258 : Int32).toNatClampNeg)))), (qf106, .inl (cf106, 8, .inl g106_2)), (qf108, .inl (cf108, 8, .inl g108_2)), (qf107, .inl (cf107, 96, .inl g107_2)), (qf109, .inl (cf109, 96, .inl g109_2)), (qf110, .inl (cf110, 96, .inl g110_2)), (qf111, .inl (cf111, 96, .inl g111_2)), (qf102, .inl (cf102, 2048, .inl g102_2))] H := hP
      replace hD : va_D A [(h0, .inr (13, z2)), (qf116, .inl (cf116, 309, .inl f116)), (qf103, .inl (cf103, 8, .inl (upd g103_2 (l1_2 : Int32).toNatClampNeg (f116 (256 : Int32).toNatClampNeg)))), (qf104, .inl (cf104, 8, .inl (upd g104_2 (l1_2 : Int32).toNatClampNeg (f116 (257 : Int32).toNatClampNeg)))), (qf105, .inl (cf105, 8, .inl (upd g105_2 (l1_2 : Int32).toNatClampNeg (f116 (258 : Int32).toNatClampNeg)))), (qf106, .inl (cf106, 8, .inl g106_2)), (qf108, .inl (cf108, 8, .inl g108_2)), (qf107, .inl (cf107, 96, .inl g107_2)), (qf109, .inl (cf109, 96, .inl g109_2)), (qf110, .inl (cf110, 96, .inl g110_2)), (qf111, .inl (cf111, 96, .inl g111_2)), (qf102, .inl (cf102, 2048, .inl g102_2))] := hD
      refine lv_aload_n hx hb dX13_again_77 rfl (lv_at hl 1 rfl) ?_
      refine va_get (D := (dC, dI)) (ci := 13) (v := .ref qf106) (C := RX13) (T := TX13) (N := 155) hx hb hts uV_h9_X13 hown hK hP 0 rfl rfl 106 (by decide) (hts (.fieldLink RX13 227 "ClassMillModel" "fieldMany" "[I") mw_h9_256) (fun _ h9 => h9) hfh_2_106 dX13_again_78 ?_
      refine lv_iload_n hx hb dX13_again_81 rfl (lv_at hl 2 rfl) ?_
      refine lv_aload_n hx hb dX13_again_82 rfl (lv_at hl 1 rfl) ?_
      refine va_get (D := (dC, dI)) (ci := 13) (v := .ref qf116) (C := RX13) (T := TX13) (N := 155) hx hb hts uV_h9_X13 hown hK hP 0 rfl rfl 116 (by decide) (hts (.fieldLink RX13 248 "ClassMillModel" "kept" "[I") mw_h9_277) (fun _ h9 => h9) hfh_2_116 dX13_again_83 ?_
      refine lv_iload_n hx hb dX13_again_86 rfl (lv_at hl 0 rfl) ?_
      refine lv_iconst (v := 3) hx hb dX13_again_87 (by decide) ?_
      refine lv_iadd hx hb dX13_again_88 ?_
      refine lv_topi (fun y_7 ey_7 => ?_)
      obtain rfl : y_7 = 259 := ey_7.trans (by decide)
      refine va_iald hx hb hK hP 1 0 rfl rfl (i := 259) (by unfold vp_in; decide) dX13_again_89 ?_
      obtain ⟨hi_8, hsp⟩ := ox_in hsp
      refine va_iast hx hb hK hP hD hS 5 4 rfl rfl (i := l1_2) (x := (f116 (259 : Int32).toNatClampNeg)) hi_8 dX13_again_90 ?_
      clear hP hD hS
      intro H locs hP hD hS
      replace hP : va_P (dC, dI) vwCl [(h0, .inr (13, z2)), (qf116, .inl (cf116, 309, .inl f116)), (qf103, .inl (cf103, 8, .inl (upd g103_2 (l1_2 : Int32).toNatClampNeg (f116 (256 : Int32).toNatClampNeg)))), (qf104, .inl (cf104, 8, .inl (upd g104_2 (l1_2 : Int32).toNatClampNeg (f116 (257 : Int32).toNatClampNeg)))), (qf105, .inl (cf105, 8, .inl (upd g105_2 (l1_2 : Int32).toNatClampNeg (f116 (258 : Int32).toNatClampNeg)))), (qf106, .inl (cf106, 8, .inl (upd g106_2 (l1_2 : Int32).toNatClampNeg (f116 (259 : Int32).toNatClampNeg)))), (qf108, .inl (cf108, 8, .inl g108_2)), (qf107, .inl (cf107, 96, .inl g107_2)), (qf109, .inl (cf109, 96, .inl g109_2)), (qf110, .inl (cf110, 96, .inl g110_2)), (qf111, .inl (cf111, 96, .inl g111_2)), (qf102, .inl (cf102, 2048, .inl g102_2))] H := hP
      replace hD : va_D A [(h0, .inr (13, z2)), (qf116, .inl (cf116, 309, .inl f116)), (qf103, .inl (cf103, 8, .inl (upd g103_2 (l1_2 : Int32).toNatClampNeg (f116 (256 : Int32).toNatClampNeg)))), (qf104, .inl (cf104, 8, .inl (upd g104_2 (l1_2 : Int32).toNatClampNeg (f116 (257 : Int32).toNatClampNeg)))), (qf105, .inl (cf105, 8, .inl (upd g105_2 (l1_2 : Int32).toNatClampNeg (f116 (258 : Int32).toNatClampNeg)))), (qf106, .inl (cf106, 8, .inl (upd g106_2 (l1_2 : Int32).toNatClampNeg (f116 (259 : Int32).toNatClampNeg)))), (qf108, .inl (cf108, 8, .inl g108_2)), (qf107, .inl (cf107, 96, .inl g107_2)), (qf109, .inl (cf109, 96, .inl g109_2)), (qf110, .inl (cf110, 96, .inl g110_2)), (qf111, .inl (cf111, 96, .inl g111_2)), (qf102, .inl (cf102, 2048, .inl g102_2))] := hD
      refine lv_aload_n hx hb dX13_again_91 rfl (lv_at hl 1 rfl) ?_
      refine va_get (D := (dC, dI)) (ci := 13) (v := .ref qf108) (C := RX13) (T := TX13) (N := 155) hx hb hts uV_h9_X13 hown hK hP 0 rfl rfl 108 (by decide) (hts (.fieldLink RX13 233 "ClassMillModel" "methodMany" "[I") mw_h9_281) (fun _ h9 => h9) hfh_2_108 dX13_again_92 ?_
      refine lv_iload_n hx hb dX13_again_95 rfl (lv_at hl 2 rfl) ?_
      refine lv_aload_n hx hb dX13_again_96 rfl (lv_at hl 1 rfl) ?_
      refine va_get (D := (dC, dI)) (ci := 13) (v := .ref qf116) (C := RX13) (T := TX13) (N := 155) hx hb hts uV_h9_X13 hown hK hP 0 rfl rfl 116 (by decide) (hts (.fieldLink RX13 248 "ClassMillModel" "kept" "[I") mw_h9_277) (fun _ h9 => h9) hfh_2_116 dX13_again_97 ?_
      refine lv_iload_n hx hb dX13_again_100 rfl (lv_at hl 0 rfl) ?_
      refine lv_iconst (v := 4) hx hb dX13_again_101 (by decide) ?_
      refine lv_iadd hx hb dX13_again_102 ?_
      refine lv_topi (fun y_9 ey_9 => ?_)
      obtain rfl : y_9 = 260 := ey_9.trans (by decide)
      refine va_iald hx hb hK hP 1 0 rfl rfl (i := 260) (by unfold vp_in; decide) dX13_again_103 ?_
      obtain ⟨hi_10, hsp⟩ := ox_in hsp
      refine va_iast hx hb hK hP hD hS 6 5 rfl rfl (i := l1_2) (x := (f116 (260 : Int32).toNatClampNeg)) hi_10 dX13_again_104 ?_
      clear hP hD hS
      intro H locs hP hD hS
      replace hP : va_P (dC, dI) vwCl [(h0, .inr (13, z2)), (qf116, .inl (cf116, 309, .inl f116)), (qf103, .inl (cf103, 8, .inl (upd g103_2 (l1_2 : Int32).toNatClampNeg (f116 (256 : Int32).toNatClampNeg)))), (qf104, .inl (cf104, 8, .inl (upd g104_2 (l1_2 : Int32).toNatClampNeg (f116 (257 : Int32).toNatClampNeg)))), (qf105, .inl (cf105, 8, .inl (upd g105_2 (l1_2 : Int32).toNatClampNeg (f116 (258 : Int32).toNatClampNeg)))), (qf106, .inl (cf106, 8, .inl (upd g106_2 (l1_2 : Int32).toNatClampNeg (f116 (259 : Int32).toNatClampNeg)))), (qf108, .inl (cf108, 8, .inl (upd g108_2 (l1_2 : Int32).toNatClampNeg (f116 (260 : Int32).toNatClampNeg)))), (qf107, .inl (cf107, 96, .inl g107_2)), (qf109, .inl (cf109, 96, .inl g109_2)), (qf110, .inl (cf110, 96, .inl g110_2)), (qf111, .inl (cf111, 96, .inl g111_2)), (qf102, .inl (cf102, 2048, .inl g102_2))] H := hP
      replace hD : va_D A [(h0, .inr (13, z2)), (qf116, .inl (cf116, 309, .inl f116)), (qf103, .inl (cf103, 8, .inl (upd g103_2 (l1_2 : Int32).toNatClampNeg (f116 (256 : Int32).toNatClampNeg)))), (qf104, .inl (cf104, 8, .inl (upd g104_2 (l1_2 : Int32).toNatClampNeg (f116 (257 : Int32).toNatClampNeg)))), (qf105, .inl (cf105, 8, .inl (upd g105_2 (l1_2 : Int32).toNatClampNeg (f116 (258 : Int32).toNatClampNeg)))), (qf106, .inl (cf106, 8, .inl (upd g106_2 (l1_2 : Int32).toNatClampNeg (f116 (259 : Int32).toNatClampNeg)))), (qf108, .inl (cf108, 8, .inl (upd g108_2 (l1_2 : Int32).toNatClampNeg (f116 (260 : Int32).toNatClampNeg)))), (qf107, .inl (cf107, 96, .inl g107_2)), (qf109, .inl (cf109, 96, .inl g109_2)), (qf110, .inl (cf110, 96, .inl g110_2)), (qf111, .inl (cf111, 96, .inl g111_2)), (qf102, .inl (cf102, 2048, .inl g102_2))] := hD
      refine lv_iconst (v := 0) hx hb dX13_again_105 (by decide) ?_
      refine lv_istore_n (lv' := [(3, .int 0), (2, .int 256), (0, .ref h0), (1, .int l1_2)]) hx hb dX13_again_106 rfl hl (by decide) rfl (fun ls hl => ?_)
      replace hl : lv_has ls 4 [(3, .int 0), (2, .int 256), (0, .ref h0), (1, .int l1_2)] := lv_sub hl [0, 1, 2, 3] rfl
      replace hP := hP.sub (ws' := [(h0, .inr (13, z2)), (qf116, .inl (cf116, 309, .inl f116)), (qf103, .inl (cf103, 8, .inl (upd g103_2 (l1_2 : Int32).toNatClampNeg (f116 (256 : Int32).toNatClampNeg)))), (qf104, .inl (cf104, 8, .inl (upd g104_2 (l1_2 : Int32).toNatClampNeg (f116 (257 : Int32).toNatClampNeg)))), (qf105, .inl (cf105, 8, .inl (upd g105_2 (l1_2 : Int32).toNatClampNeg (f116 (258 : Int32).toNatClampNeg)))), (qf106, .inl (cf106, 8, .inl (upd g106_2 (l1_2 : Int32).toNatClampNeg (f116 (259 : Int32).toNatClampNeg)))), (qf108, .inl (cf108, 8, .inl (upd g108_2 (l1_2 : Int32).toNatClampNeg (f116 (260 : Int32).toNatClampNeg)))), (qf107, .inl (cf107, 96, .inl g107_2)), (qf109, .inl (cf109, 96, .inl g109_2)), (qf110, .inl (cf110, 96, .inl g110_2)), (qf111, .inl (cf111, 96, .inl g111_2)), (qf102, .inl (cf102, 2048, .inl g102_2))]) [0, 1, 2, 3, 4, 5, 6, 7, 8, 9, 10, 11] rfl
      replace hD := hD.sub (ws' := [(h0, .inr (13, z2)), (qf116, .inl (cf116, 309, .inl f116)), (qf103, .inl (cf103, 8, .inl (upd g103_2 (l1_2 : Int32).toNatClampNeg (f116 (256 : Int32).toNatClampNeg)))), (qf104, .inl (cf104, 8, .inl (upd g104_2 (l1_2 : Int32).toNatClampNeg (f116 (257 : Int32).toNatClampNeg)))), (qf105, .inl (cf105, 8, .inl (upd g105_2 (l1_2 : Int32).toNatClampNeg (f116 (258 : Int32).toNatClampNeg)))), (qf106, .inl (cf106, 8, .inl (upd g106_2 (l1_2 : Int32).toNatClampNeg (f116 (259 : Int32).toNatClampNeg)))), (qf108, .inl (cf108, 8, .inl (upd g108_2 (l1_2 : Int32).toNatClampNeg (f116 (260 : Int32).toNatClampNeg)))), (qf107, .inl (cf107, 96, .inl g107_2)), (qf109, .inl (cf109, 96, .inl g109_2)), (qf110, .inl (cf110, 96, .inl g110_2)), (qf111, .inl (cf111, 96, .inl g111_2)), (qf102, .inl (cf102, 2048, .inl g102_2))]) [0, 1, 2, 3, 4, 5, 6, 7, 8, 9, 10, 11] (by decide) rfl
      replace hK := hK.sub (tys' := [(cf116, .int), (cf103, .int), (cf104, .int), (cf105, .int), (cf106, .int), (cf108, .int), (cf107, .int), (cf109, .int), (cf110, .int), (cf111, .int), (cf102, .int)]) [0, 1, 2, 3, 4, 5, 6, 7, 8, 9, 10] rfl
      obtain ⟨n_107, hn_107⟩ : ∃ z : Nat, z = nf := ⟨_, rfl⟩
      obtain ⟨l1_107, el1_107⟩ : ∃ z : Int32, z = l1_2 := ⟨_, rfl⟩
      obtain ⟨l2_107, el2_107⟩ : ∃ z : Int32, z = 256 := ⟨_, rfl⟩
      obtain ⟨l3_107, el3_107⟩ : ∃ z : Int32, z = 0 := ⟨_, rfl⟩
      obtain ⟨g102_107, eg102_107⟩ : ∃ z : Nat → Int32, z = g102_2 := ⟨_, rfl⟩
      obtain ⟨g103_107, eg103_107⟩ : ∃ z : Nat → Int32, z = (upd g103_2 (l1_2 : Int32).toNatClampNeg (f116 (256 : Int32).toNatClampNeg)) := ⟨_, rfl⟩
      obtain ⟨g104_107, eg104_107⟩ : ∃ z : Nat → Int32, z = (upd g104_2 (l1_2 : Int32).toNatClampNeg (f116 (257 : Int32).toNatClampNeg)) := ⟨_, rfl⟩
      obtain ⟨g105_107, eg105_107⟩ : ∃ z : Nat → Int32, z = (upd g105_2 (l1_2 : Int32).toNatClampNeg (f116 (258 : Int32).toNatClampNeg)) := ⟨_, rfl⟩
      obtain ⟨g106_107, eg106_107⟩ : ∃ z : Nat → Int32, z = (upd g106_2 (l1_2 : Int32).toNatClampNeg (f116 (259 : Int32).toNatClampNeg)) := ⟨_, rfl⟩
      obtain ⟨g107_107, eg107_107⟩ : ∃ z : Nat → Int32, z = g107_2 := ⟨_, rfl⟩
      obtain ⟨g108_107, eg108_107⟩ : ∃ z : Nat → Int32, z = (upd g108_2 (l1_2 : Int32).toNatClampNeg (f116 (260 : Int32).toNatClampNeg)) := ⟨_, rfl⟩
      obtain ⟨g109_107, eg109_107⟩ : ∃ z : Nat → Int32, z = g109_2 := ⟨_, rfl⟩
      obtain ⟨g110_107, eg110_107⟩ : ∃ z : Nat → Int32, z = g110_2 := ⟨_, rfl⟩
      obtain ⟨g111_107, eg111_107⟩ : ∃ z : Nat → Int32, z = g111_2 := ⟨_, rfl⟩
      replace hsp : lp_vm_again_107 nf n_107 a1 f116 f103 f104 f105 f106 f108 f107 f109 f110 f111 f102 l1_107 l2_107 l3_107 g102_107 g103_107 g104_107 g105_107 g106_107 g107_107 g108_107 g109_107 g110_107 g111_107 = some (o102, o103, o104, o105, o106, o107, o108, o109, o110, o111) := by rw [hn_107, el1_107, el2_107, el3_107, eg102_107, eg103_107, eg104_107, eg105_107, eg106_107, eg107_107, eg108_107, eg109_107, eg110_107, eg111_107]; exact hsp
      replace hl : lv_has ls 4 [(3, .int l3_107), (2, .int l2_107), (0, .ref h0), (1, .int l1_107)] := by rw [el1_107, el2_107, el3_107]; exact hl
      obtain ⟨z107, ez107⟩ : ∃ z : List Value, z = z2 := ⟨_, rfl⟩
      have hfh_107_102 : z107[102]? = some (.ref qf102) := by rw [ez107]; exact hfh_2_102
      have hfh_107_103 : z107[103]? = some (.ref qf103) := by rw [ez107]; exact hfh_2_103
      have hfh_107_104 : z107[104]? = some (.ref qf104) := by rw [ez107]; exact hfh_2_104
      have hfh_107_105 : z107[105]? = some (.ref qf105) := by rw [ez107]; exact hfh_2_105
      have hfh_107_106 : z107[106]? = some (.ref qf106) := by rw [ez107]; exact hfh_2_106
      have hfh_107_107 : z107[107]? = some (.ref qf107) := by rw [ez107]; exact hfh_2_107
      have hfh_107_108 : z107[108]? = some (.ref qf108) := by rw [ez107]; exact hfh_2_108
      have hfh_107_109 : z107[109]? = some (.ref qf109) := by rw [ez107]; exact hfh_2_109
      have hfh_107_110 : z107[110]? = some (.ref qf110) := by rw [ez107]; exact hfh_2_110
      have hfh_107_111 : z107[111]? = some (.ref qf111) := by rw [ez107]; exact hfh_2_111
      have hfh_107_116 : z107[116]? = some (.ref qf116) := by rw [ez107]; exact hfh_2_116
      have hlh_107 : z107.length = 155 := by rw [ez107]; exact hlh_2
      have hrh_107 : ∀ j : Nat, z107[j]? = zs[j]? := by rw [ez107]; exact hrh_2
      replace hP : va_P (dC, dI) vwCl [(h0, .inr (13, z107)), (qf116, .inl (cf116, 309, .inl f116)), (qf103, .inl (cf103, 8, .inl g103_107)), (qf104, .inl (cf104, 8, .inl g104_107)), (qf105, .inl (cf105, 8, .inl g105_107)), (qf106, .inl (cf106, 8, .inl g106_107)), (qf108, .inl (cf108, 8, .inl g108_107)), (qf107, .inl (cf107, 96, .inl g107_107)), (qf109, .inl (cf109, 96, .inl g109_107)), (qf110, .inl (cf110, 96, .inl g110_107)), (qf111, .inl (cf111, 96, .inl g111_107)), (qf102, .inl (cf102, 2048, .inl g102_107))] H := by rw [ez107, eg102_107, eg103_107, eg104_107, eg105_107, eg106_107, eg107_107, eg108_107, eg109_107, eg110_107, eg111_107]; exact hP
      replace hD : va_D A [(h0, .inr (13, z107)), (qf116, .inl (cf116, 309, .inl f116)), (qf103, .inl (cf103, 8, .inl g103_107)), (qf104, .inl (cf104, 8, .inl g104_107)), (qf105, .inl (cf105, 8, .inl g105_107)), (qf106, .inl (cf106, 8, .inl g106_107)), (qf108, .inl (cf108, 8, .inl g108_107)), (qf107, .inl (cf107, 96, .inl g107_107)), (qf109, .inl (cf109, 96, .inl g109_107)), (qf110, .inl (cf110, 96, .inl g110_107)), (qf111, .inl (cf111, 96, .inl g111_107)), (qf102, .inl (cf102, 2048, .inl g102_107))] := by rw [ez107, eg102_107, eg103_107, eg104_107, eg105_107, eg106_107, eg107_107, eg108_107, eg109_107, eg110_107, eg111_107]; exact hD
      clear hn_107 ez107 el1_107 el2_107 el3_107 eg102_107 eg103_107 eg104_107 eg105_107 eg106_107 eg107_107 eg108_107 eg109_107 eg110_107 eg111_107
      try clear hlo
      try clear hH
      revert hsp
      revert hP
      revert hD
      revert hS
      revert hl
      revert hrh_107
      revert hlh_107
      revert hfh_107_116
      revert hfh_107_111
      revert hfh_107_110
      revert hfh_107_109
      revert hfh_107_108
      revert hfh_107_107
      revert hfh_107_106
      revert hfh_107_105
      revert hfh_107_104
      revert hfh_107_103
      revert hfh_107_102
      revert g111_107
      revert g110_107
      revert g109_107
      revert g108_107
      revert g107_107
      revert g106_107
      revert g105_107
      revert g104_107
      revert g103_107
      revert g102_107
      revert l3_107
      revert l2_107
      revert l1_107
      revert z107
      revert ls
      revert locs
      revert H
      induction n_107 with
      | zero => intro H locs ls z107 l1_107 l2_107 l3_107 g102_107 g103_107 g104_107 g105_107 g106_107 g107_107 g108_107 g109_107 g110_107 g111_107 hfh_107_102 hfh_107_103 hfh_107_104 hfh_107_105 hfh_107_106 hfh_107_107 hfh_107_108 hfh_107_109 hfh_107_110 hfh_107_111 hfh_107_116 hlh_107 hrh_107 hl hS hD hP hsp; unfold lp_vm_again_107 at hsp; cases hsp
      | succ n_107 ih_107 =>
        intro H locs ls z107 l1_107 l2_107 l3_107 g102_107 g103_107 g104_107 g105_107 g106_107 g107_107 g108_107 g109_107 g110_107 g111_107 hfh_107_102 hfh_107_103 hfh_107_104 hfh_107_105 hfh_107_106 hfh_107_107 hfh_107_108 hfh_107_109 hfh_107_110 hfh_107_111 hfh_107_116 hlh_107 hrh_107 hl hS hD hP hsp
        unfold lp_vm_again_107 at hsp
        try dsimp only at hsp
        refine lv_iload_n hx hb dX13_again_107 rfl (lv_at hl 0 rfl) ?_
        refine lv_bipush (v := 12) hx hb dX13_again_108 (by decide) ?_
        refine lv_icmp_ge (tgt := 206) hx hb dX13_again_110 (by decide) (fun c_11 => ?_) (fun c_11 => ?_)
        · rw [if_pos c_11] at hsp
          have hr0 := Option.some.inj hsp
          clear hsp
          obtain ⟨hq0, hr1⟩ := Prod.mk.inj hr0
          clear hr0
          obtain ⟨hq1, hr2⟩ := Prod.mk.inj hr1
          clear hr1
          obtain ⟨hq2, hr3⟩ := Prod.mk.inj hr2
          clear hr2
          obtain ⟨hq3, hr4⟩ := Prod.mk.inj hr3
          clear hr3
          obtain ⟨hq4, hr5⟩ := Prod.mk.inj hr4
          clear hr4
          obtain ⟨hq5, hr6⟩ := Prod.mk.inj hr5
          clear hr5
          obtain ⟨hq6, hr7⟩ := Prod.mk.inj hr6
          clear hr6
          obtain ⟨hq7, hr8⟩ := Prod.mk.inj hr7
          clear hr7
          obtain ⟨hq8, hr9⟩ := Prod.mk.inj hr8
          clear hr8
          subst hq0
          subst hq1
          subst hq2
          subst hq3
          subst hq4
          subst hq5
          subst hq6
          subst hq7
          subst hq8
          subst hr9
          have hP9 := hP.sub (ws' := [(h0, .inr (13, z107)), (qf116, .inl (cf116, 309, .inl f116)), (qf103, .inl (cf103, 8, .inl g103_107)), (qf104, .inl (cf104, 8, .inl g104_107)), (qf105, .inl (cf105, 8, .inl g105_107)), (qf106, .inl (cf106, 8, .inl g106_107)), (qf108, .inl (cf108, 8, .inl g108_107)), (qf107, .inl (cf107, 96, .inl g107_107)), (qf109, .inl (cf109, 96, .inl g109_107)), (qf110, .inl (cf110, 96, .inl g110_107)), (qf111, .inl (cf111, 96, .inl g111_107)), (qf102, .inl (cf102, 2048, .inl g102_107))]) [0, 1, 2, 3, 4, 5, 6, 7, 8, 9, 10, 11] rfl
          have hD9 := hD.sub (ws' := [(h0, .inr (13, z107)), (qf116, .inl (cf116, 309, .inl f116)), (qf103, .inl (cf103, 8, .inl g103_107)), (qf104, .inl (cf104, 8, .inl g104_107)), (qf105, .inl (cf105, 8, .inl g105_107)), (qf106, .inl (cf106, 8, .inl g106_107)), (qf108, .inl (cf108, 8, .inl g108_107)), (qf107, .inl (cf107, 96, .inl g107_107)), (qf109, .inl (cf109, 96, .inl g109_107)), (qf110, .inl (cf110, 96, .inl g110_107)), (qf111, .inl (cf111, 96, .inl g111_107)), (qf102, .inl (cf102, 2048, .inl g102_107))]) [0, 1, 2, 3, 4, 5, 6, 7, 8, 9, 10, 11] (by decide) rfl
          have hK9 := hK.sub (tys' := [(cf116, .int), (cf103, .int), (cf104, .int), (cf105, .int), (cf106, .int), (cf108, .int), (cf107, .int), (cf109, .int), (cf110, .int), (cf111, .int), (cf102, .int)]) [0, 1, 2, 3, 4, 5, 6, 7, 8, 9, 10] rfl
          exact W.vret hx hb hr (fun t ht hW => ⟨⟨(z107), rfl, ⟨trivial, hlh_107, hrh_107⟩, by rw [ht]; exact hP9, va_K.moved hW.alike hK9, hD9⟩, hS.F ht⟩) hS.2.2 dX13_again_206
        · rw [if_neg c_11] at hsp
          refine lv_aload_n hx hb dX13_again_113 rfl (lv_at hl 2 rfl) ?_
          refine va_get (D := (dC, dI)) (ci := 13) (v := .ref qf107) (C := RX13) (T := TX13) (N := 155) hx hb hts uV_h9_X13 hown hK hP 0 rfl rfl 107 (by decide) (hts (.fieldLink RX13 230 "ClassMillModel" "fieldAt" "[I") mw_h9_257) (fun _ h9 => h9) hfh_107_107 dX13_again_114 ?_
          refine lv_bipush (v := 12) hx hb dX13_again_117 (by decide) ?_
          refine lv_iload_n hx hb dX13_again_119 rfl (lv_at hl 3 rfl) ?_
          refine lv_imul hx hb dX13_again_120 ?_
          refine lv_iload_n hx hb dX13_again_121 rfl (lv_at hl 0 rfl) ?_
          refine lv_iadd hx hb dX13_again_122 ?_
          refine lv_aload_n hx hb dX13_again_123 rfl (lv_at hl 2 rfl) ?_
          refine va_get (D := (dC, dI)) (ci := 13) (v := .ref qf116) (C := RX13) (T := TX13) (N := 155) hx hb hts uV_h9_X13 hown hK hP 0 rfl rfl 116 (by decide) (hts (.fieldLink RX13 248 "ClassMillModel" "kept" "[I") mw_h9_277) (fun _ h9 => h9) hfh_107_116 dX13_again_124 ?_
          refine lv_iload_n hx hb dX13_again_127 rfl (lv_at hl 1 rfl) ?_
          refine lv_iconst (v := 5) hx hb dX13_again_128 (by decide) ?_
          refine lv_iadd hx hb dX13_again_129 ?_
          refine lv_iload_n hx hb dX13_again_130 rfl (lv_at hl 0 rfl) ?_
          refine lv_iadd hx hb dX13_again_131 ?_
          obtain ⟨hi_12, hsp⟩ := ox_in hsp
          refine va_iald hx hb hK hP 1 0 rfl rfl (i := ((l2_107 + 5) + l3_107)) hi_12 dX13_again_132 ?_
          obtain ⟨hi_13, hsp⟩ := ox_in hsp
          refine va_iast hx hb hK hP hD hS 7 6 rfl rfl (i := ((12 * l1_107) + l3_107)) (x := (f116 (((l2_107 + 5) + l3_107) : Int32).toNatClampNeg)) hi_13 dX13_again_133 ?_
          clear hP hD hS
          intro H locs hP hD hS
          replace hP : va_P (dC, dI) vwCl [(h0, .inr (13, z107)), (qf116, .inl (cf116, 309, .inl f116)), (qf103, .inl (cf103, 8, .inl g103_107)), (qf104, .inl (cf104, 8, .inl g104_107)), (qf105, .inl (cf105, 8, .inl g105_107)), (qf106, .inl (cf106, 8, .inl g106_107)), (qf108, .inl (cf108, 8, .inl g108_107)), (qf107, .inl (cf107, 96, .inl (upd g107_107 (((12 * l1_107) + l3_107) : Int32).toNatClampNeg (f116 (((l2_107 + 5) + l3_107) : Int32).toNatClampNeg)))), (qf109, .inl (cf109, 96, .inl g109_107)), (qf110, .inl (cf110, 96, .inl g110_107)), (qf111, .inl (cf111, 96, .inl g111_107)), (qf102, .inl (cf102, 2048, .inl g102_107))] H := hP
          replace hD : va_D A [(h0, .inr (13, z107)), (qf116, .inl (cf116, 309, .inl f116)), (qf103, .inl (cf103, 8, .inl g103_107)), (qf104, .inl (cf104, 8, .inl g104_107)), (qf105, .inl (cf105, 8, .inl g105_107)), (qf106, .inl (cf106, 8, .inl g106_107)), (qf108, .inl (cf108, 8, .inl g108_107)), (qf107, .inl (cf107, 96, .inl (upd g107_107 (((12 * l1_107) + l3_107) : Int32).toNatClampNeg (f116 (((l2_107 + 5) + l3_107) : Int32).toNatClampNeg)))), (qf109, .inl (cf109, 96, .inl g109_107)), (qf110, .inl (cf110, 96, .inl g110_107)), (qf111, .inl (cf111, 96, .inl g111_107)), (qf102, .inl (cf102, 2048, .inl g102_107))] := hD
          refine lv_aload_n hx hb dX13_again_134 rfl (lv_at hl 2 rfl) ?_
          refine va_get (D := (dC, dI)) (ci := 13) (v := .ref qf109) (C := RX13) (T := TX13) (N := 155) hx hb hts uV_h9_X13 hown hK hP 0 rfl rfl 109 (by decide) (hts (.fieldLink RX13 236 "ClassMillModel" "methodAt" "[I") mw_h9_282) (fun _ h9 => h9) hfh_107_109 dX13_again_135 ?_
          refine lv_bipush (v := 12) hx hb dX13_again_138 (by decide) ?_
          refine lv_iload_n hx hb dX13_again_140 rfl (lv_at hl 3 rfl) ?_
          refine lv_imul hx hb dX13_again_141 ?_
          refine lv_iload_n hx hb dX13_again_142 rfl (lv_at hl 0 rfl) ?_
          refine lv_iadd hx hb dX13_again_143 ?_
          refine lv_aload_n hx hb dX13_again_144 rfl (lv_at hl 2 rfl) ?_
          refine va_get (D := (dC, dI)) (ci := 13) (v := .ref qf116) (C := RX13) (T := TX13) (N := 155) hx hb hts uV_h9_X13 hown hK hP 0 rfl rfl 116 (by decide) (hts (.fieldLink RX13 248 "ClassMillModel" "kept" "[I") mw_h9_277) (fun _ h9 => h9) hfh_107_116 dX13_again_145 ?_
          refine lv_iload_n hx hb dX13_again_148 rfl (lv_at hl 1 rfl) ?_
          refine lv_bipush (v := 17) hx hb dX13_again_149 (by decide) ?_
          refine lv_iadd hx hb dX13_again_151 ?_
          refine lv_iload_n hx hb dX13_again_152 rfl (lv_at hl 0 rfl) ?_
          refine lv_iadd hx hb dX13_again_153 ?_
          obtain ⟨hi_14, hsp⟩ := ox_in hsp
          refine va_iald hx hb hK hP 1 0 rfl rfl (i := ((l2_107 + 17) + l3_107)) hi_14 dX13_again_154 ?_
          obtain ⟨hi_15, hsp⟩ := ox_in hsp
          refine va_iast hx hb hK hP hD hS 8 7 rfl rfl (i := ((12 * l1_107) + l3_107)) (x := (f116 (((l2_107 + 17) + l3_107) : Int32).toNatClampNeg)) hi_15 dX13_again_155 ?_
          clear hP hD hS
          intro H locs hP hD hS
          replace hP : va_P (dC, dI) vwCl [(h0, .inr (13, z107)), (qf116, .inl (cf116, 309, .inl f116)), (qf103, .inl (cf103, 8, .inl g103_107)), (qf104, .inl (cf104, 8, .inl g104_107)), (qf105, .inl (cf105, 8, .inl g105_107)), (qf106, .inl (cf106, 8, .inl g106_107)), (qf108, .inl (cf108, 8, .inl g108_107)), (qf107, .inl (cf107, 96, .inl (upd g107_107 (((12 * l1_107) + l3_107) : Int32).toNatClampNeg (f116 (((l2_107 + 5) + l3_107) : Int32).toNatClampNeg)))), (qf109, .inl (cf109, 96, .inl (upd g109_107 (((12 * l1_107) + l3_107) : Int32).toNatClampNeg (f116 (((l2_107 + 17) + l3_107) : Int32).toNatClampNeg)))), (qf110, .inl (cf110, 96, .inl g110_107)), (qf111, .inl (cf111, 96, .inl g111_107)), (qf102, .inl (cf102, 2048, .inl g102_107))] H := hP
          replace hD : va_D A [(h0, .inr (13, z107)), (qf116, .inl (cf116, 309, .inl f116)), (qf103, .inl (cf103, 8, .inl g103_107)), (qf104, .inl (cf104, 8, .inl g104_107)), (qf105, .inl (cf105, 8, .inl g105_107)), (qf106, .inl (cf106, 8, .inl g106_107)), (qf108, .inl (cf108, 8, .inl g108_107)), (qf107, .inl (cf107, 96, .inl (upd g107_107 (((12 * l1_107) + l3_107) : Int32).toNatClampNeg (f116 (((l2_107 + 5) + l3_107) : Int32).toNatClampNeg)))), (qf109, .inl (cf109, 96, .inl (upd g109_107 (((12 * l1_107) + l3_107) : Int32).toNatClampNeg (f116 (((l2_107 + 17) + l3_107) : Int32).toNatClampNeg)))), (qf110, .inl (cf110, 96, .inl g110_107)), (qf111, .inl (cf111, 96, .inl g111_107)), (qf102, .inl (cf102, 2048, .inl g102_107))] := hD
          refine lv_aload_n hx hb dX13_again_156 rfl (lv_at hl 2 rfl) ?_
          refine va_get (D := (dC, dI)) (ci := 13) (v := .ref qf110) (C := RX13) (T := TX13) (N := 155) hx hb hts uV_h9_X13 hown hK hP 0 rfl rfl 110 (by decide) (hts (.fieldLink RX13 239 "ClassMillModel" "handlersAt" "[I") mw_h9_283) (fun _ h9 => h9) hfh_107_110 dX13_again_157 ?_
          refine lv_bipush (v := 12) hx hb dX13_again_160 (by decide) ?_
          refine lv_iload_n hx hb dX13_again_162 rfl (lv_at hl 3 rfl) ?_
          refine lv_imul hx hb dX13_again_163 ?_
          refine lv_iload_n hx hb dX13_again_164 rfl (lv_at hl 0 rfl) ?_
          refine lv_iadd hx hb dX13_again_165 ?_
          refine lv_aload_n hx hb dX13_again_166 rfl (lv_at hl 2 rfl) ?_
          refine va_get (D := (dC, dI)) (ci := 13) (v := .ref qf116) (C := RX13) (T := TX13) (N := 155) hx hb hts uV_h9_X13 hown hK hP 0 rfl rfl 116 (by decide) (hts (.fieldLink RX13 248 "ClassMillModel" "kept" "[I") mw_h9_277) (fun _ h9 => h9) hfh_107_116 dX13_again_167 ?_
          refine lv_iload_n hx hb dX13_again_170 rfl (lv_at hl 1 rfl) ?_
          refine lv_bipush (v := 29) hx hb dX13_again_171 (by decide) ?_
          refine lv_iadd hx hb dX13_again_173 ?_
          refine lv_iload_n hx hb dX13_again_174 rfl (lv_at hl 0 rfl) ?_
          refine lv_iadd hx hb dX13_again_175 ?_
          obtain ⟨hi_16, hsp⟩ := ox_in hsp
          refine va_iald hx hb hK hP 1 0 rfl rfl (i := ((l2_107 + 29) + l3_107)) hi_16 dX13_again_176 ?_
          obtain ⟨hi_17, hsp⟩ := ox_in hsp
          refine va_iast hx hb hK hP hD hS 9 8 rfl rfl (i := ((12 * l1_107) + l3_107)) (x := (f116 (((l2_107 + 29) + l3_107) : Int32).toNatClampNeg)) hi_17 dX13_again_177 ?_
          clear hP hD hS
          intro H locs hP hD hS
          replace hP : va_P (dC, dI) vwCl [(h0, .inr (13, z107)), (qf116, .inl (cf116, 309, .inl f116)), (qf103, .inl (cf103, 8, .inl g103_107)), (qf104, .inl (cf104, 8, .inl g104_107)), (qf105, .inl (cf105, 8, .inl g105_107)), (qf106, .inl (cf106, 8, .inl g106_107)), (qf108, .inl (cf108, 8, .inl g108_107)), (qf107, .inl (cf107, 96, .inl (upd g107_107 (((12 * l1_107) + l3_107) : Int32).toNatClampNeg (f116 (((l2_107 + 5) + l3_107) : Int32).toNatClampNeg)))), (qf109, .inl (cf109, 96, .inl (upd g109_107 (((12 * l1_107) + l3_107) : Int32).toNatClampNeg (f116 (((l2_107 + 17) + l3_107) : Int32).toNatClampNeg)))), (qf110, .inl (cf110, 96, .inl (upd g110_107 (((12 * l1_107) + l3_107) : Int32).toNatClampNeg (f116 (((l2_107 + 29) + l3_107) : Int32).toNatClampNeg)))), (qf111, .inl (cf111, 96, .inl g111_107)), (qf102, .inl (cf102, 2048, .inl g102_107))] H := hP
          replace hD : va_D A [(h0, .inr (13, z107)), (qf116, .inl (cf116, 309, .inl f116)), (qf103, .inl (cf103, 8, .inl g103_107)), (qf104, .inl (cf104, 8, .inl g104_107)), (qf105, .inl (cf105, 8, .inl g105_107)), (qf106, .inl (cf106, 8, .inl g106_107)), (qf108, .inl (cf108, 8, .inl g108_107)), (qf107, .inl (cf107, 96, .inl (upd g107_107 (((12 * l1_107) + l3_107) : Int32).toNatClampNeg (f116 (((l2_107 + 5) + l3_107) : Int32).toNatClampNeg)))), (qf109, .inl (cf109, 96, .inl (upd g109_107 (((12 * l1_107) + l3_107) : Int32).toNatClampNeg (f116 (((l2_107 + 17) + l3_107) : Int32).toNatClampNeg)))), (qf110, .inl (cf110, 96, .inl (upd g110_107 (((12 * l1_107) + l3_107) : Int32).toNatClampNeg (f116 (((l2_107 + 29) + l3_107) : Int32).toNatClampNeg)))), (qf111, .inl (cf111, 96, .inl g111_107)), (qf102, .inl (cf102, 2048, .inl g102_107))] := hD
          refine lv_aload_n hx hb dX13_again_178 rfl (lv_at hl 2 rfl) ?_
          refine va_get (D := (dC, dI)) (ci := 13) (v := .ref qf111) (C := RX13) (T := TX13) (N := 155) hx hb hts uV_h9_X13 hown hK hP 0 rfl rfl 111 (by decide) (hts (.fieldLink RX13 242 "ClassMillModel" "framesAt" "[I") mw_h9_284) (fun _ h9 => h9) hfh_107_111 dX13_again_179 ?_
          refine lv_bipush (v := 12) hx hb dX13_again_182 (by decide) ?_
          refine lv_iload_n hx hb dX13_again_184 rfl (lv_at hl 3 rfl) ?_
          refine lv_imul hx hb dX13_again_185 ?_
          refine lv_iload_n hx hb dX13_again_186 rfl (lv_at hl 0 rfl) ?_
          refine lv_iadd hx hb dX13_again_187 ?_
          refine lv_aload_n hx hb dX13_again_188 rfl (lv_at hl 2 rfl) ?_
          refine va_get (D := (dC, dI)) (ci := 13) (v := .ref qf116) (C := RX13) (T := TX13) (N := 155) hx hb hts uV_h9_X13 hown hK hP 0 rfl rfl 116 (by decide) (hts (.fieldLink RX13 248 "ClassMillModel" "kept" "[I") mw_h9_277) (fun _ h9 => h9) hfh_107_116 dX13_again_189 ?_
          refine lv_iload_n hx hb dX13_again_192 rfl (lv_at hl 1 rfl) ?_
          refine lv_bipush (v := 41) hx hb dX13_again_193 (by decide) ?_
          refine lv_iadd hx hb dX13_again_195 ?_
          refine lv_iload_n hx hb dX13_again_196 rfl (lv_at hl 0 rfl) ?_
          refine lv_iadd hx hb dX13_again_197 ?_
          obtain ⟨hi_18, hsp⟩ := ox_in hsp
          refine va_iald hx hb hK hP 1 0 rfl rfl (i := ((l2_107 + 41) + l3_107)) hi_18 dX13_again_198 ?_
          obtain ⟨hi_19, hsp⟩ := ox_in hsp
          refine va_iast hx hb hK hP hD hS 10 9 rfl rfl (i := ((12 * l1_107) + l3_107)) (x := (f116 (((l2_107 + 41) + l3_107) : Int32).toNatClampNeg)) hi_19 dX13_again_199 ?_
          clear hP hD hS
          intro H locs hP hD hS
          replace hP : va_P (dC, dI) vwCl [(h0, .inr (13, z107)), (qf116, .inl (cf116, 309, .inl f116)), (qf103, .inl (cf103, 8, .inl g103_107)), (qf104, .inl (cf104, 8, .inl g104_107)), (qf105, .inl (cf105, 8, .inl g105_107)), (qf106, .inl (cf106, 8, .inl g106_107)), (qf108, .inl (cf108, 8, .inl g108_107)), (qf107, .inl (cf107, 96, .inl (upd g107_107 (((12 * l1_107) + l3_107) : Int32).toNatClampNeg (f116 (((l2_107 + 5) + l3_107) : Int32).toNatClampNeg)))), (qf109, .inl (cf109, 96, .inl (upd g109_107 (((12 * l1_107) + l3_107) : Int32).toNatClampNeg (f116 (((l2_107 + 17) + l3_107) : Int32).toNatClampNeg)))), (qf110, .inl (cf110, 96, .inl (upd g110_107 (((12 * l1_107) + l3_107) : Int32).toNatClampNeg (f116 (((l2_107 + 29) + l3_107) : Int32).toNatClampNeg)))), (qf111, .inl (cf111, 96, .inl (upd g111_107 (((12 * l1_107) + l3_107) : Int32).toNatClampNeg (f116 (((l2_107 + 41) + l3_107) : Int32).toNatClampNeg)))), (qf102, .inl (cf102, 2048, .inl g102_107))] H := hP
          replace hD : va_D A [(h0, .inr (13, z107)), (qf116, .inl (cf116, 309, .inl f116)), (qf103, .inl (cf103, 8, .inl g103_107)), (qf104, .inl (cf104, 8, .inl g104_107)), (qf105, .inl (cf105, 8, .inl g105_107)), (qf106, .inl (cf106, 8, .inl g106_107)), (qf108, .inl (cf108, 8, .inl g108_107)), (qf107, .inl (cf107, 96, .inl (upd g107_107 (((12 * l1_107) + l3_107) : Int32).toNatClampNeg (f116 (((l2_107 + 5) + l3_107) : Int32).toNatClampNeg)))), (qf109, .inl (cf109, 96, .inl (upd g109_107 (((12 * l1_107) + l3_107) : Int32).toNatClampNeg (f116 (((l2_107 + 17) + l3_107) : Int32).toNatClampNeg)))), (qf110, .inl (cf110, 96, .inl (upd g110_107 (((12 * l1_107) + l3_107) : Int32).toNatClampNeg (f116 (((l2_107 + 29) + l3_107) : Int32).toNatClampNeg)))), (qf111, .inl (cf111, 96, .inl (upd g111_107 (((12 * l1_107) + l3_107) : Int32).toNatClampNeg (f116 (((l2_107 + 41) + l3_107) : Int32).toNatClampNeg)))), (qf102, .inl (cf102, 2048, .inl g102_107))] := hD
          refine lv_iinc (v := (l3_107 + 1)) (lv' := [(3, .int (l3_107 + 1)), (2, .int l2_107), (0, .ref h0), (1, .int l1_107)]) hx hb dX13_again_200 hl (k := 0) rfl rfl (by decide) rfl (fun ls hl => ?_)
          refine lv_goto (tgt := 107) hx hb dX13_again_203 (by decide) ?_
          exact ih_107 H locs ls z107 l1_107 l2_107 (l3_107 + 1) g102_107 g103_107 g104_107 g105_107 g106_107 (upd g107_107 (((12 * l1_107) + l3_107) : Int32).toNatClampNeg (f116 (((l2_107 + 5) + l3_107) : Int32).toNatClampNeg)) g108_107 (upd g109_107 (((12 * l1_107) + l3_107) : Int32).toNatClampNeg (f116 (((l2_107 + 17) + l3_107) : Int32).toNatClampNeg)) (upd g110_107 (((12 * l1_107) + l3_107) : Int32).toNatClampNeg (f116 (((l2_107 + 29) + l3_107) : Int32).toNatClampNeg)) (upd g111_107 (((12 * l1_107) + l3_107) : Int32).toNatClampNeg (f116 (((l2_107 + 41) + l3_107) : Int32).toNatClampNeg)) (hfh_107_102) (hfh_107_103) (hfh_107_104) (hfh_107_105) (hfh_107_106) (hfh_107_107) (hfh_107_108) (hfh_107_109) (hfh_107_110) (hfh_107_111) (hfh_107_116) hlh_107 hrh_107 (lv_sub hl [0, 1, 2, 3] rfl) hS (hD.sub (ws' := [(h0, .inr (13, z107)), (qf116, .inl (cf116, 309, .inl f116)), (qf103, .inl (cf103, 8, .inl g103_107)), (qf104, .inl (cf104, 8, .inl g104_107)), (qf105, .inl (cf105, 8, .inl g105_107)), (qf106, .inl (cf106, 8, .inl g106_107)), (qf108, .inl (cf108, 8, .inl g108_107)), (qf107, .inl (cf107, 96, .inl (upd g107_107 (((12 * l1_107) + l3_107) : Int32).toNatClampNeg (f116 (((l2_107 + 5) + l3_107) : Int32).toNatClampNeg)))), (qf109, .inl (cf109, 96, .inl (upd g109_107 (((12 * l1_107) + l3_107) : Int32).toNatClampNeg (f116 (((l2_107 + 17) + l3_107) : Int32).toNatClampNeg)))), (qf110, .inl (cf110, 96, .inl (upd g110_107 (((12 * l1_107) + l3_107) : Int32).toNatClampNeg (f116 (((l2_107 + 29) + l3_107) : Int32).toNatClampNeg)))), (qf111, .inl (cf111, 96, .inl (upd g111_107 (((12 * l1_107) + l3_107) : Int32).toNatClampNeg (f116 (((l2_107 + 41) + l3_107) : Int32).toNatClampNeg)))), (qf102, .inl (cf102, 2048, .inl g102_107))]) [0, 1, 2, 3, 4, 5, 6, 7, 8, 9, 10, 11] (by decide) rfl) (hP.sub (ws' := [(h0, .inr (13, z107)), (qf116, .inl (cf116, 309, .inl f116)), (qf103, .inl (cf103, 8, .inl g103_107)), (qf104, .inl (cf104, 8, .inl g104_107)), (qf105, .inl (cf105, 8, .inl g105_107)), (qf106, .inl (cf106, 8, .inl g106_107)), (qf108, .inl (cf108, 8, .inl g108_107)), (qf107, .inl (cf107, 96, .inl (upd g107_107 (((12 * l1_107) + l3_107) : Int32).toNatClampNeg (f116 (((l2_107 + 5) + l3_107) : Int32).toNatClampNeg)))), (qf109, .inl (cf109, 96, .inl (upd g109_107 (((12 * l1_107) + l3_107) : Int32).toNatClampNeg (f116 (((l2_107 + 17) + l3_107) : Int32).toNatClampNeg)))), (qf110, .inl (cf110, 96, .inl (upd g110_107 (((12 * l1_107) + l3_107) : Int32).toNatClampNeg (f116 (((l2_107 + 29) + l3_107) : Int32).toNatClampNeg)))), (qf111, .inl (cf111, 96, .inl (upd g111_107 (((12 * l1_107) + l3_107) : Int32).toNatClampNeg (f116 (((l2_107 + 41) + l3_107) : Int32).toNatClampNeg)))), (qf102, .inl (cf102, 2048, .inl g102_107))]) [0, 1, 2, 3, 4, 5, 6, 7, 8, 9, 10, 11] rfl) hsp
    · rw [if_neg c_1] at hsp
      refine lv_aload_n hx hb dX13_again_9 rfl (lv_at hl 1 rfl) ?_
      refine va_get (D := (dC, dI)) (ci := 13) (v := .ref qf102) (C := RX13) (T := TX13) (N := 155) hx hb hts uV_h9_X13 hown hK hP 0 rfl rfl 102 (by decide) (hts (.fieldLink RX13 215 "ClassMillModel" "constantAt" "[I") mw_h9_267) (fun _ h9 => h9) hfh_2_102 dX13_again_10 ?_
      refine lv_sipush (v := 256) hx hb dX13_again_13 (by decide) ?_
      refine lv_iload_n hx hb dX13_again_16 rfl (lv_at hl 2 rfl) ?_
      refine lv_imul hx hb dX13_again_17 ?_
      refine lv_iload_n hx hb dX13_again_18 rfl (lv_at hl 0 rfl) ?_
      refine lv_iadd hx hb dX13_again_19 ?_
      refine lv_aload_n hx hb dX13_again_20 rfl (lv_at hl 1 rfl) ?_
      refine va_get (D := (dC, dI)) (ci := 13) (v := .ref qf116) (C := RX13) (T := TX13) (N := 155) hx hb hts uV_h9_X13 hown hK hP 0 rfl rfl 116 (by decide) (hts (.fieldLink RX13 248 "ClassMillModel" "kept" "[I") mw_h9_277) (fun _ h9 => h9) hfh_2_116 dX13_again_21 ?_
      refine lv_iload_n hx hb dX13_again_24 rfl (lv_at hl 0 rfl) ?_
      obtain ⟨hi_20, hsp⟩ := ox_in hsp
      refine va_iald hx hb hK hP 1 0 rfl rfl (i := l2_2) hi_20 dX13_again_25 ?_
      obtain ⟨hi_21, hsp⟩ := ox_in hsp
      refine va_iast hx hb hK hP hD hS 11 10 rfl rfl (i := ((256 * l1_2) + l2_2)) (x := (f116 (l2_2 : Int32).toNatClampNeg)) hi_21 dX13_again_26 ?_
      clear hP hD hS
      intro H locs hP hD hS
      replace hP : va_P (dC, dI) vwCl [(h0, .inr (13, z2)), (qf116, .inl (cf116, 309, .inl f116)), (qf103, .inl (cf103, 8, .inl g103_2)), (qf104, .inl (cf104, 8, .inl g104_2)), (qf105, .inl (cf105, 8, .inl g105_2)), (qf106, .inl (cf106, 8, .inl g106_2)), (qf108, .inl (cf108, 8, .inl g108_2)), (qf107, .inl (cf107, 96, .inl g107_2)), (qf109, .inl (cf109, 96, .inl g109_2)), (qf110, .inl (cf110, 96, .inl g110_2)), (qf111, .inl (cf111, 96, .inl g111_2)), (qf102, .inl (cf102, 2048, .inl (upd g102_2 (((256 * l1_2) + l2_2) : Int32).toNatClampNeg (f116 (l2_2 : Int32).toNatClampNeg))))] H := hP
      replace hD : va_D A [(h0, .inr (13, z2)), (qf116, .inl (cf116, 309, .inl f116)), (qf103, .inl (cf103, 8, .inl g103_2)), (qf104, .inl (cf104, 8, .inl g104_2)), (qf105, .inl (cf105, 8, .inl g105_2)), (qf106, .inl (cf106, 8, .inl g106_2)), (qf108, .inl (cf108, 8, .inl g108_2)), (qf107, .inl (cf107, 96, .inl g107_2)), (qf109, .inl (cf109, 96, .inl g109_2)), (qf110, .inl (cf110, 96, .inl g110_2)), (qf111, .inl (cf111, 96, .inl g111_2)), (qf102, .inl (cf102, 2048, .inl (upd g102_2 (((256 * l1_2) + l2_2) : Int32).toNatClampNeg (f116 (l2_2 : Int32).toNatClampNeg))))] := hD
      refine lv_iinc (v := (l2_2 + 1)) (lv' := [(2, .int (l2_2 + 1)), (0, .ref h0), (1, .int l1_2)]) hx hb dX13_again_27 hl (k := 0) rfl rfl (by decide) rfl (fun ls hl => ?_)
      refine lv_goto (tgt := 2) hx hb dX13_again_30 (by decide) ?_
      exact ih_2 H locs ls z2 l1_2 (l2_2 + 1) (upd g102_2 (((256 * l1_2) + l2_2) : Int32).toNatClampNeg (f116 (l2_2 : Int32).toNatClampNeg)) g103_2 g104_2 g105_2 g106_2 g107_2 g108_2 g109_2 g110_2 g111_2 (hfh_2_102) (hfh_2_103) (hfh_2_104) (hfh_2_105) (hfh_2_106) (hfh_2_107) (hfh_2_108) (hfh_2_109) (hfh_2_110) (hfh_2_111) (hfh_2_116) hlh_2 hrh_2 (lv_sub hl [0, 1, 2] rfl) hS (hD.sub (ws' := [(h0, .inr (13, z2)), (qf116, .inl (cf116, 309, .inl f116)), (qf103, .inl (cf103, 8, .inl g103_2)), (qf104, .inl (cf104, 8, .inl g104_2)), (qf105, .inl (cf105, 8, .inl g105_2)), (qf106, .inl (cf106, 8, .inl g106_2)), (qf108, .inl (cf108, 8, .inl g108_2)), (qf107, .inl (cf107, 96, .inl g107_2)), (qf109, .inl (cf109, 96, .inl g109_2)), (qf110, .inl (cf110, 96, .inl g110_2)), (qf111, .inl (cf111, 96, .inl g111_2)), (qf102, .inl (cf102, 2048, .inl (upd g102_2 (((256 * l1_2) + l2_2) : Int32).toNatClampNeg (f116 (l2_2 : Int32).toNatClampNeg))))]) [0, 1, 2, 3, 4, 5, 6, 7, 8, 9, 10, 11] (by decide) rfl) (hP.sub (ws' := [(h0, .inr (13, z2)), (qf116, .inl (cf116, 309, .inl f116)), (qf103, .inl (cf103, 8, .inl g103_2)), (qf104, .inl (cf104, 8, .inl g104_2)), (qf105, .inl (cf105, 8, .inl g105_2)), (qf106, .inl (cf106, 8, .inl g106_2)), (qf108, .inl (cf108, 8, .inl g108_2)), (qf107, .inl (cf107, 96, .inl g107_2)), (qf109, .inl (cf109, 96, .inl g109_2)), (qf110, .inl (cf110, 96, .inl g110_2)), (qf111, .inl (cf111, 96, .inl g111_2)), (qf102, .inl (cf102, 2048, .inl (upd g102_2 (((256 * l1_2) + l2_2) : Int32).toNatClampNeg (f116 (l2_2 : Int32).toNatClampNeg))))]) [0, 1, 2, 3, 4, 5, 6, 7, 8, 9, 10, 11] rfl) hsp
def sp_vm_start (nf : Nat) (a1 : Int32) (a2 : Int32) (v98 : Int32) (v99 : Int32) (v138 : Int32) (v139 : Int32) (v140 : Int32) (v141 : Int32) (v142 : Int32) (v143 : Int32) (v149 : Int32) (f108 : Nat → Int32) (f107 : Nat → Int32) (f100 : Nat → Int32) (f109 : Nat → Int32) (f102 : Nat → Int32) (f150 : Nat → Int32) (f151 : Nat → Int32) (f152 : Nat → Int32) (f153 : Nat → Int32) (f154 : Nat → Int32) : Option (Int32 × (Nat → Int32) × (Nat → Int32) × (Nat → Int32) × (Nat → Int32) × (Nat → Int32) × Int32 × Int32 × Int32 × Int32 × Int32 × Int32 × Int32) := (if v99 = 0 then (some (0, f150, f151, f152, f153, f154, v138, v139, v140, v141, v142, v143, v149)) else (if (a1 - 8) < 0 then (some (0, f150, f151, f152, f153, f154, v138, v139, v140, v141, v142, v143, v149)) else (if v98 ≤ (a1 - 8) then (some (0, f150, f151, f152, f153, f154, v138, v139, v140, v141, v142, v143, v149)) else (if a2 < 0 then (some (0, f150, f151, f152, f153, f154, v138, v139, v140, v141, v142, v143, v149)) else (if (a1 - 8) < 0 then none else if 8 ≤ ((a1 - 8) : Int32).toNatClampNeg then none else (if a2 < (f108 ((a1 - 8) : Int32).toNatClampNeg) then ((sp_tm_kindText nf (a1 - 8) a2 1 f107 f100 f109).bind (fun p1 => (if ((256 * (a1 - 8)) + p1) < 0 then none else if 2048 ≤ (((256 * (a1 - 8)) + p1) : Int32).toNatClampNeg then none else (if ((12 * (a1 - 8)) + a2) < 0 then none else if 96 ≤ (((12 * (a1 - 8)) + a2) : Int32).toNatClampNeg then none else ((sp_tm_byteAt nf (a1 - 8) (f109 (((12 * (a1 - 8)) + a2) : Int32).toNatClampNeg) f100).bind (fun p2 => (if p2 = 0 then (some (0, f150, f151, f152, f153, f154, v138, v139, v140, v141, v142, v143, v149)) else (if ((((6000 * (a1 - 8)) + (f102 (((256 * (a1 - 8)) + p1) : Int32).toNatClampNeg)) + 2) + 1) < 0 then none else if 48000 ≤ (((((6000 * (a1 - 8)) + (f102 (((256 * (a1 - 8)) + p1) : Int32).toNatClampNeg)) + 2) + 1) : Int32).toNatClampNeg then none else (if (f100 (((((6000 * (a1 - 8)) + (f102 (((256 * (a1 - 8)) + p1) : Int32).toNatClampNeg)) + 2) + 1) : Int32).toNatClampNeg) = 41 then ((sp_tn_enter nf a1 a2 0 f150 f151 f152 f153 f154).bind (fun p3 => (some (1, p3.1, p3.2.1, p3.2.2.1, p3.2.2.2.1, p3.2.2.2.2.1, 1, (-1), 0, 0, 0, 0, p3.2.2.2.2.2)))) else (some (0, f150, f151, f152, f153, f154, v138, v139, v140, v141, v142, v143, v149))))))))))) else (some (0, f150, f151, f152, f153, f154, v138, v139, v140, v141, v142, v143, v149))))))))
