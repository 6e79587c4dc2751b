set_option maxHeartbeats 4000000 in
set_option maxRecDepth 100000 in
/-- ClassMillModel.typesEnd -/
theorem tn_typesEnd (l : Launch) (dC : Nat → ClassId) (dI : Nat → Nat → Nat) (sz : Nat) (h0 : Nat) (zs : (List Value)) (a1 : Int32) (qf100 : Nat) (v132 : Int32) (cf100 : ClassId) (f100 : (Nat → Int32)) (nf : Nat) (r0 : Int32) (hlen : zs.length = 155) (hf100 : zs[100]? = some (.ref qf100)) (hf132 : zs[132]? = some (.int v132)) (hsp : sp_tn_typesEnd nf a1 v132 f100 = some r0) : Met l yX13_typesEnd (.code yX13_typesEnd cX13_typesEnd 5 (some .int) :: VS_h6) ({ frames := 1, cells := 0, slots := 0, locals := 22 }) (va_Pc [.ref h0, .int a1] (fun U => U.heap.size = sz ∧ va_P (dC, dI) vwCl [(h0, .inr (13, zs)), (qf100, .inl (cf100, 48000, .inl f100))] U.heap ∧ va_K (dC, dI) vwCl [(cf100, .int)] U ∧ va_D (fun _ => True) [(h0, .inr (13, zs)), (qf100, .inl (cf100, 48000, .inl f100))])) (va_Qi (fun (r : Int32) (u : (List Value)) => match u with | (zo1) => r0 = r ∧ zo1.length = 155 ∧ (∀ j : Nat, zo1[j]? = zs[j]?)) (fun (u : (List Value)) (t : State) => match u with | (zo1) => va_P (dC, dI) vwCl [(h0, .inr (13, zo1)), (qf100, .inl (cf100, 48000, .inl f100))] t.heap ∧ va_K (dC, dI) vwCl [(cf100, .int)] t ∧ va_D (va_A [(h0, .inr (13, zs)), (qf100, .inl (cf100, 48000, .inl f100))] sz) [(h0, .inr (13, zo1)), (qf100, .inl (cf100, 48000, .inl f100))]) (va_A [(h0, .inr (13, zs)), (qf100, .inl (cf100, 48000, .inl f100))] sz)) 0 0 (va_A [(h0, .inr (13, zs)), (qf100, .inl (cf100, 48000, .inl f100))] sz) := by
  refine Met.ofW (cc := cX13_typesEnd) (maxL := 5) (ret := (some .int)) (by decide) rfl ?_
  intro p e s m args below meth c s₁ B hml hv
  obtain ⟨rfl, hsz, hP, hK, hD0⟩ := hv
  have hx := B.exec
  have hb := B.bytes
  have hr := B.returns
  have hts := atoms_spec (ws := (.code yX13_typesEnd cX13_typesEnd 5 (some .int) :: VS_h6)) B.pre
  replace hts := fun w (h : w ∈ VS_h6) => hts w (List.mem_cons_of_mem _ h)
  have hown : s.vm.findClass RX13 = some m.cls := findClass_of_methodNamed B.named
  have hlocks := B.notSynchronized
  subst hsz
  have hD := hD0.self (sz := s.heap.size)
  generalize hAe : va_A [(h0, .inr (13, zs)), (qf100, .inl (cf100, 48000, .inl f100))] s.heap.size = A at hD  ⊢
  have hA : ∀ q : Nat, s.heap.size ≤ q → A q := fun q h => by rw [← hAe]; exact Or.inr h
  have hP : va_P (dC, dI) vwCl [(h0, .inr (13, zs)), (qf100, .inl (cf100, 48000, .inl f100))] s.heap := hP
  have hl := lv_entry ([.ref h0, .int a1]) (n := 5) (Nat.le_of_ble_eq_true rfl)
  rw [lg_entry_eq]
  generalize (lg_sl ([.ref h0, .int a1]) ++ List.replicate (5 - (lg_sl ([.ref h0, .int a1])).length) Slot.unset).toArray = ls at hl ⊢
  have hl : lv_has ls 5 [(0, .ref h0), (1, .int a1)] := hl
  obtain ⟨H, hH⟩ : ∃ H : Heap, s.heap = H := ⟨_, rfl⟩
  rw [hH] at hP ⊢
  have hS : va_S A s.heap H [] := by rw [← hH]; exact va_S.rf
  obtain ⟨locs, hlo⟩ : ∃ locs : List Loc, locs = [] := ⟨_, rfl⟩
  rw [← hlo] at hS ⊢
  have hrs0 : ∀ j : Nat, zs[j]? = zs[j]? := fun _  => rfl
  unfold sp_tn_typesEnd at hsp
  refine lv_aload_n hx hb dX13_typesEnd_0 rfl (lv_at hl 0 rfl) ?_
  refine lv_aload_n hx hb dX13_typesEnd_1 rfl (lv_at hl 0 rfl) ?_
  refine va_get (D := (dC, dI)) (ci := 13) (v := .int v132) (C := RX13) (T := TX13) (N := 155) hx hb hts uV_h6_X13 hown hK hP 0 rfl rfl 132 (by decide) (hts (.fieldLink RX13 932 "ClassMillModel" "inClass" "I") mw_h6_113) (fun _ h9 => h9) hf132 dX13_typesEnd_2 ?_
  refine lv_iload_n hx hb dX13_typesEnd_5 rfl (lv_at hl 1 rfl) ?_
  obtain ⟨u1_0, hu_1, hsp⟩ := ox_bind hsp
  try dsimp only at hsp
  have hPc := hP.sub (ws' := [(h0, .inr (13, zs)), (qf100, .inl (cf100, 48000, .inl f100))]) [0, 1] rfl
  have hDc := hD.sub (ws' := [(h0, .inr (13, zs)), (qf100, .inl (cf100, 48000, .inl f100))]) [0, 1] (by decide) rfl
  have hKc := hK.sub (tys' := [(cf100, .int)]) [0] rfl
  have hFc := va_free (wc := [(h0, .inr (13, zs)), (qf100, .inl (cf100, 48000, .inl f100))]) hD hS hA [0, 1] rfl
  refine va_calli (va_runV (As := [.int v132, .int a1]) (rest := []) ⟨hx, hb, hml, hown, hts⟩ (tm_byteAt l dC dI H.size h0 zs v132 a1 qf100 cf100 f100 nf u1_0 hlen hf100 hu_1) (cwV 2 hts gv_h6_22 rfl rfl rfl (by decide +kernel) ⟨Nat.le_of_ble_eq_true rfl, Nat.le_of_ble_eq_true rfl⟩) ⟨fun a U g mk q => by obtain ⟨q0, q1, qP, qK, qD⟩ := q; exact ⟨q0, q1, qP, va_K.moved (u := U) (U := U.calling g mk a) (Vm.Alike.refl U.vm) qK, qD⟩, va_recv hKc hPc (ci := 13) (q0 := 0) rfl rfl, fun U hU hW => ⟨rfl, by rw [hU], by rw [hU]; exact hPc, va_K.moved hW.alike hKc, hDc.weaken (fun _ _ _ _ => trivial)⟩⟩ rfl rfl hl.1 rfl (lv_room (Nat.le_of_ble_eq_true rfl)) dX13_typesEnd_6 ⟨Nat.le_of_ble_eq_true rfl, Nat.le_of_ble_eq_true rfl⟩) hS (fun q _ h => hFc q h) hFc ?_
  clear hS
  intro r_1 u t H1 locs ht hvm hw hB hz1 hk1 hS
  obtain ⟨z_1, rfl⟩ : ∃ z, z = u := ⟨_, rfl⟩
  obtain ⟨hP1, hK1, hD1⟩ := hB
  rw [ht] at hP1
  have hK1 := va_K.moved hvm.symm hK1
  try dsimp only at hw
  have hPD := va_join (wr := []) (w1 := [(h0, .inr (13, z_1)), (qf100, .inl (cf100, 48000, .inl f100))]) hP hD [0, 1] [] rfl rfl (by decide) (by decide) hk1 hFc hP1 hD1
  clear hP hD
  obtain ⟨hP, hD⟩ := hPD
  replace hK := (hK.sub (tys' := []) [] rfl).app hK1
  clear hPc hDc hKc hFc hP1 hK1 hD1 hz1 hk1 ht hvm
  generalize H1 = H at hP hS ⊢
  replace hP : va_P (dC, dI) vwCl [(h0, .inr (13, z_1)), (qf100, .inl (cf100, 48000, .inl f100))] H := hP
  replace hD : va_D A [(h0, .inr (13, z_1)), (qf100, .inl (cf100, 48000, .inl f100))] := hD
  replace hK : va_K (dC, dI) vwCl [(cf100, .int)] s := hK
  obtain ⟨hwa_1, hln_1, hre_1⟩ := hw
  have hfk_1_100 : z_1[100]? = some (.ref qf100) := (hre_1 100 ).trans (hf100)
  have hfk_1_132 : z_1[132]? = some (.int v132) := (hre_1 132 ).trans (hf132)
  have hrq_1 : ∀ j : Nat, z_1[j]? = zs[j]? := fun j  => (hre_1 j ).trans (hrs0 j )
  obtain rfl := hwa_1
  refine lv_istore_n (lv' := [(2, .int u1_0), (0, .ref h0), (1, .int a1)]) hx hb dX13_typesEnd_9 rfl hl (by decide) rfl (fun ls hl => ?_)
  refine lv_iload_n hx hb dX13_typesEnd_10 rfl (lv_at hl 2 rfl) ?_
  refine lv_iconst (v := 1) hx hb dX13_typesEnd_11 (by decide) ?_
  refine lv_iadd hx hb dX13_typesEnd_12 ?_
  refine lv_istore_n (lv' := [(3, .int (a1 + 1)), (2, .int u1_0), (0, .ref h0), (1, .int a1)]) hx hb dX13_typesEnd_13 rfl hl (by decide) rfl (fun ls hl => ?_)
  refine lv_iconst (v := 0) hx hb dX13_typesEnd_14 (by decide) ?_
  refine lv_istore (lv' := [(4, .int 0), (3, .int (a1 + 1)), (2, .int u1_0), (0, .ref h0), (1, .int a1)]) hx hb dX13_typesEnd_15 hl (by decide) rfl (fun ls hl => ?_)
  replace hP := hP.sub (ws' := [(h0, .inr (13, z_1)), (qf100, .inl (cf100, 48000, .inl f100))]) [0, 1] rfl
  replace hD := hD.sub (ws' := [(h0, .inr (13, z_1)), (qf100, .inl (cf100, 48000, .inl f100))]) [0, 1] (by decide) rfl
  replace hK := hK.sub (tys' := [(cf100, .int)]) [0] rfl
  obtain ⟨n_17, hn_17⟩ : ∃ z : Nat, z = nf := ⟨_, rfl⟩
  obtain ⟨z17, ez17⟩ : ∃ z : List Value, z = z_1 := ⟨_, rfl⟩
  obtain ⟨l1_17, el1_17⟩ : ∃ z : Int32, z = a1 := ⟨_, rfl⟩
  obtain ⟨l2_17, el2_17⟩ : ∃ z : Int32, z = u1_0 := ⟨_, rfl⟩
  obtain ⟨l3_17, el3_17⟩ : ∃ z : Int32, z = (a1 + 1) := ⟨_, rfl⟩
  obtain ⟨l4_17, el4_17⟩ : ∃ z : Int32, z = 0 := ⟨_, rfl⟩
  replace hsp : lp_tn_typesEnd_17 nf n_17 a1 v132 f100 l1_17 l2_17 l3_17 l4_17 = some r0 := by rw [hn_17, el1_17, el2_17, el3_17, el4_17]; exact hsp
  replace hl : lv_has ls 5 [(4, .int l4_17), (3, .int l3_17), (2, .int l2_17), (0, .ref h0), (1, .int l1_17)] := by rw [el1_17, el2_17, el3_17, el4_17]; exact hl
  have hfh_17_100 : z17[100]? = some (.ref qf100) := by rw [ez17]; exact hfk_1_100
  have hfh_17_132 : z17[132]? = some (.int v132) := by rw [ez17]; exact hfk_1_132
  have hlh_17 : z17.length = 155 := by rw [ez17]; exact hln_1
  have hrh_17 : ∀ j : Nat, z17[j]? = zs[j]? := by rw [ez17]; exact hrq_1
  replace hP : va_P (dC, dI) vwCl [(h0, .inr (13, z17)), (qf100, .inl (cf100, 48000, .inl f100))] H := by rw [ez17]; exact hP
  replace hD : va_D A [(h0, .inr (13, z17)), (qf100, .inl (cf100, 48000, .inl f100))] := by rw [ez17]; exact hD
  clear hn_17 ez17 el1_17 el2_17 el3_17 el4_17
  try clear hlo
  try clear hH
  revert hsp
  revert hP
  revert hD
  revert hS
  revert hl
  revert hrh_17
  revert hlh_17
  revert hfh_17_132
  revert hfh_17_100
  revert l4_17
  revert l3_17
  revert l2_17
  revert l1_17
  revert z17
  revert ls
  revert locs
  revert H
  induction n_17 with
  | zero => intro H locs ls z17 l1_17 l2_17 l3_17 l4_17 hfh_17_100 hfh_17_132 hlh_17 hrh_17 hl hS hD hP hsp; unfold lp_tn_typesEnd_17 at hsp; cases hsp
  | succ n_17 ih_17 =>
    intro H locs ls z17 l1_17 l2_17 l3_17 l4_17 hfh_17_100 hfh_17_132 hlh_17 hrh_17 hl hS hD hP hsp
    unfold lp_tn_typesEnd_17 at hsp
    try dsimp only at hsp
    refine lv_iload hx hb dX13_typesEnd_17 (lv_at hl 0 rfl) ?_
    refine lv_iload_n hx hb dX13_typesEnd_19 rfl (lv_at hl 2 rfl) ?_
    refine lv_icmp_ge (tgt := 50) hx hb dX13_typesEnd_20 (by decide) (fun c_2 => ?_) (fun c_2 => ?_)
    · rw [if_pos c_2] at hsp
      refine lv_iload_n hx hb dX13_typesEnd_50 rfl (lv_at hl 1 rfl) ?_
      have hr0 := Option.some.inj hsp
      clear hsp
      subst hr0
      have hP9 := hP.sub (ws' := [(h0, .inr (13, z17)), (qf100, .inl (cf100, 48000, .inl f100))]) [0, 1] rfl
      have hD9 := hD.sub (ws' := [(h0, .inr (13, z17)), (qf100, .inl (cf100, 48000, .inl f100))]) [0, 1] (by decide) rfl
      have hK9 := hK.sub (tys' := [(cf100, .int)]) [0] rfl
      exact W.iret hx hb hr (fun t ht hW => ⟨⟨(l3_17), (z17), rfl, ⟨rfl, hlh_17, hrh_17⟩, by rw [ht]; exact hP9, va_K.moved hW.alike hK9, hD9⟩, hS.F ht⟩) hS.2.2 dX13_typesEnd_51
    · rw [if_neg c_2] at hsp
      refine lv_iload_n hx hb dX13_typesEnd_23 rfl (lv_at hl 1 rfl) ?_
      refine lv_aload_n hx hb dX13_typesEnd_24 rfl (lv_at hl 3 rfl) ?_
      refine lv_aload_n hx hb dX13_typesEnd_25 rfl (lv_at hl 3 rfl) ?_
      refine va_get (D := (dC, dI)) (ci := 13) (v := .int v132) (C := RX13) (T := TX13) (N := 155) hx hb hts uV_h6_X13 hown hK hP 0 rfl rfl 132 (by decide) (hts (.fieldLink RX13 932 "ClassMillModel" "inClass" "I") mw_h6_113) (fun _ h9 => h9) hfh_17_132 dX13_typesEnd_26 ?_
      refine lv_iload_n hx hb dX13_typesEnd_29 rfl (lv_at hl 1 rfl) ?_
      obtain ⟨u2_0, hu_2, hsp⟩ := ox_bind hsp
      try dsimp only at hsp
      have hPc := hP.sub (ws' := [(h0, .inr (13, z17)), (qf100, .inl (cf100, 48000, .inl f100))]) [0, 1] rfl
      have hDc := hD.sub (ws' := [(h0, .inr (13, z17)), (qf100, .inl (cf100, 48000, .inl f100))]) [0, 1] (by decide) rfl
      have hKc := hK.sub (tys' := [(cf100, .int)]) [0] rfl
      have hFc := va_free (wc := [(h0, .inr (13, z17)), (qf100, .inl (cf100, 48000, .inl f100))]) hD hS hA [0, 1] rfl
      refine va_calli (va_runV (As := [.int v132, .int l3_17]) (rest := [.int l3_17]) ⟨hx, hb, hml, hown, hts⟩ (tm_byteAt l dC dI H.size h0 z17 v132 l3_17 qf100 cf100 f100 nf u2_0 hlh_17 hfh_17_100 hu_2) (cwV 2 hts gv_h6_22 rfl rfl rfl (by decide +kernel) ⟨Nat.le_of_ble_eq_true rfl, Nat.le_of_ble_eq_true rfl⟩) ⟨fun a U g mk q => by obtain ⟨q0, q1, qP, qK, qD⟩ := q; exact ⟨q0, q1, qP, va_K.moved (u := U) (U := U.calling g mk a) (Vm.Alike.refl U.vm) qK, qD⟩, va_recv hKc hPc (ci := 13) (q0 := 0) rfl rfl, fun U hU hW => ⟨rfl, by rw [hU], by rw [hU]; exact hPc, va_K.moved hW.alike hKc, hDc.weaken (fun _ _ _ _ => trivial)⟩⟩ rfl rfl hl.1 rfl (lv_room (Nat.le_of_ble_eq_true rfl)) dX13_typesEnd_30 ⟨Nat.le_of_ble_eq_true rfl, Nat.le_of_ble_eq_true rfl⟩) hS (fun q _ h => hFc q h) hFc ?_
      clear hS
      intro r_3 u t H1 locs ht hvm hw hB hz1 hk1 hS
      obtain ⟨z_2, rfl⟩ : ∃ z, z = u := ⟨_, rfl⟩
      obtain ⟨hP1, hK1, hD1⟩ := hB
      rw [ht] at hP1
      have hK1 := va_K.moved hvm.symm hK1
      try dsimp only at hw
      have hPD := va_join (wr := []) (w1 := [(h0, .inr (13, z_2)), (qf100, .inl (cf100, 48000, .inl f100))]) hP hD [0, 1] [] rfl rfl (by decide) (by decide) hk1 hFc hP1 hD1
      clear hP hD
      obtain ⟨hP, hD⟩ := hPD
      replace hK := (hK.sub (tys' := []) [] rfl).app hK1
      clear hPc hDc hKc hFc hP1 hK1 hD1 hz1 hk1 ht hvm
      generalize H1 = H at hP hS ⊢
      replace hP : va_P (dC, dI) vwCl [(h0, .inr (13, z_2)), (qf100, .inl (cf100, 48000, .inl f100))] H := hP
      replace hD : va_D A [(h0, .inr (13, z_2)), (qf100, .inl (cf100, 48000, .inl f100))] := hD
      replace hK : va_K (dC, dI) vwCl [(cf100, .int)] s := hK
      obtain ⟨hwa_2, hln_2, hre_2⟩ := hw
      have hfk_2_100 : z_2[100]? = some (.ref qf100) := (hre_2 100 ).trans (hfh_17_100)
      have hfk_2_132 : z_2[132]? = some (.int v132) := (hre_2 132 ).trans (hfh_17_132)
      have hrq_2 : ∀ j : Nat, z_2[j]? = zs[j]? := fun j  => (hre_2 j ).trans (hrh_17 j )
      obtain rfl := hwa_2
      refine lv_iconst (v := 3) hx hb dX13_typesEnd_33 (by decide) ?_
      refine lv_icmp_ne (tgt := 41) hx hb dX13_typesEnd_34 (by decide) (fun c_4 => ?_) (fun c_4 => ?_)
      · rw [if_neg c_4] at hsp
        refine lv_iconst (v := 1) hx hb dX13_typesEnd_41 (by decide) ?_
        refine lv_iadd hx hb dX13_typesEnd_42 ?_
        refine lv_istore_n (lv' := [(3, .int (l3_17 + 1)), (4, .int l4_17), (2, .int l2_17), (0, .ref h0), (1, .int l1_17)]) hx hb dX13_typesEnd_43 rfl hl (by decide) rfl (fun ls hl => ?_)
        refine lv_iinc (v := (l4_17 + 1)) (lv' := [(4, .int (l4_17 + 1)), (3, .int (l3_17 + 1)), (2, .int l2_17), (0, .ref h0), (1, .int l1_17)]) hx hb dX13_typesEnd_44 hl (k := 1) rfl rfl (by decide) rfl (fun ls hl => ?_)
        refine lv_goto (tgt := 17) hx hb dX13_typesEnd_47 (by decide) ?_
        exact ih_17 H locs ls z_2 l1_17 l2_17 (l3_17 + 1) (l4_17 + 1) (hfk_2_100) (hfk_2_132) hln_2 hrq_2 (lv_sub hl [0, 1, 2, 3, 4] rfl) hS (hD.sub (ws' := [(h0, .inr (13, z_2)), (qf100, .inl (cf100, 48000, .inl f100))]) [0, 1] (by decide) rfl) (hP.sub (ws' := [(h0, .inr (13, z_2)), (qf100, .inl (cf100, 48000, .inl f100))]) [0, 1] rfl) hsp
      · rw [if_pos c_4] at hsp
        refine lv_iconst (v := 2) hx hb dX13_typesEnd_37 (by decide) ?_
        refine lv_goto (tgt := 42) hx hb dX13_typesEnd_38 (by decide) ?_
        refine lv_iadd hx hb dX13_typesEnd_42 ?_
        refine lv_istore_n (lv' := [(3, .int (l3_17 + 2)), (4, .int l4_17), (2, .int l2_17), (0, .ref h0), (1, .int l1_17)]) hx hb dX13_typesEnd_43 rfl hl (by decide) rfl (fun ls hl => ?_)
        refine lv_iinc (v := (l4_17 + 1)) (lv' := [(4, .int (l4_17 + 1)), (3, .int (l3_17 + 2)), (2, .int l2_17), (0, .ref h0), (1, .int l1_17)]) hx hb dX13_typesEnd_44 hl (k := 1) rfl rfl (by decide) rfl (fun ls hl => ?_)
        refine lv_goto (tgt := 17) hx hb dX13_typesEnd_47 (by decide) ?_
        exact ih_17 H locs ls z_2 l1_17 l2_17 (l3_17 + 2) (l4_17 + 1) (hfk_2_100) (hfk_2_132) hln_2 hrq_2 (lv_sub hl [0, 1, 2, 3, 4] rfl) hS (hD.sub (ws' := [(h0, .inr (13, z_2)), (qf100, .inl (cf100, 48000, .inl f100))]) [0, 1] (by decide) rfl) (hP.sub (ws' := [(h0, .inr (13, z_2)), (qf100, .inl (cf100, 48000, .inl f100))]) [0, 1] rfl) hsp
def lp_tn_frameFor_22 (nf n : Nat) (a1 : Int32) (v132 : Int32) (v133 : Int32) (f111 : Nat → Int32) (f100 : Nat → Int32)  (l1_22 : Int32) (l2_22 : Int32) (l3_22 : Int32) : Option (Int32) := match n with
  | 0 => none
  | n + 1 => ((sp_tm_frameMany nf v132 v133 f111 f100).bind (fun p1 => (if p1 ≤ l3_22 then (some (-1)) else ((sp_tm_pairIn nf l2_22 v132 f100).bind (fun p2 => (if p2 = l1_22 then (some l2_22) else ((sp_tn_typesEnd nf (l2_22 + 2) v132 f100).bind (fun p3 => ((sp_tn_typesEnd nf p3 v132 f100).bind (fun p4 => (lp_tn_frameFor_22 nf n a1 v132 v133 f111 f100 l1_22 p4 (l3_22 + 1))))))))))))
def sp_tn_frameFor (nf : Nat) (a1 : Int32) (v132 : Int32) (v133 : Int32) (f111 : Nat → Int32) (f100 : Nat → Int32) : Option (Int32) := (if ((12 * v132) + v133) < 0 then none else if 96 ≤ (((12 * v132) + v133) : Int32).toNatClampNeg then none else (lp_tn_frameFor_22 nf nf a1 v132 v133 f111 f100 a1 ((f111 (((12 * v132) + v133) : Int32).toNatClampNeg) + 1) 0))
set_option maxHeartbeats 4000000 in
set_option maxRecDepth 100000 in
/-- ClassMillModel.frameFor -/
theorem tn_frameFor (l : Launch) (dC : Nat → ClassId) (dI : Nat → Nat → Nat) (sz : Nat) (h0 : Nat) (zs : (List Value)) (a1 : Int32) (qf100 : Nat) (qf111 : Nat) (v132 : Int32) (v133 : Int32) (cf111 : ClassId) (f111 : (Nat → Int32)) (cf100 : ClassId) (f100 : (Nat → Int32)) (nf : Nat) (r0 : Int32) (hlen : zs.length = 155) (hf100 : zs[100]? = some (.ref qf100)) (hf111 : zs[111]? = some (.ref qf111)) (hf132 : zs[132]? = some (.int v132)) (hf133 : zs[133]? = some (.int v133)) (hsp : sp_tn_frameFor nf a1 v132 v133 f111 f100 = some r0) : Met l yX13_frameFor (.code yX13_frameFor cX13_frameFor 4 (some .int) :: VS_h6) ({ frames := 2, cells := 0, slots := 0, locals := 46 }) (va_Pc [.ref h0, .int a1] (fun U => U.heap.size = sz ∧ va_P (dC, dI) vwCl [(h0, .inr (13, zs)), (qf111, .inl (cf111, 96, .inl f111)), (qf100, .inl (cf100, 48000, .inl f100))] U.heap ∧ va_K (dC, dI) vwCl [(cf111, .int), (cf100, .int)] U ∧ va_D (fun _ => True) [(h0, .inr (13, zs)), (qf111, .inl (cf111, 96, .inl f111)), (qf100, .inl (cf100, 48000, .inl f100))])) (va_Qi (fun (r : Int32) (u : (List Value)) => match u with | (zo1) => r0 = r ∧ zo1.length = 155 ∧ (∀ j : Nat, zo1[j]? = zs[j]?)) (fun (u : (List Value)) (t : State) => match u with | (zo1) => va_P (dC, dI) vwCl [(h0, .inr (13, zo1)), (qf111, .inl (cf111, 96, .inl f111)), (qf100, .inl (cf100, 48000, .inl f100))] t.heap ∧ va_K (dC, dI) vwCl [(cf111, .int), (cf100, .int)] t ∧ va_D (va_A [(h0, .inr (13, zs)), (qf111, .inl (cf111, 96, .inl f111)), (qf100, .inl (cf100, 48000, .inl f100))] sz) [(h0, .inr (13, zo1)), (qf111, .inl (cf111, 96, .inl f111)), (qf100, .inl (cf100, 48000, .inl f100))]) (va_A [(h0, .inr (13, zs)), (qf111, .inl (cf111, 96, .inl f111)), (qf100, .inl (cf100, 48000, .inl f100))] sz)) 0 0 (va_A [(h0, .inr (13, zs)), (qf111, .inl (cf111, 96, .inl f111)), (qf100, .inl (cf100, 48000, .inl f100))] sz) := by
  refine Met.ofW (cc := cX13_frameFor) (maxL := 4) (ret := (some .int)) (by decide) rfl ?_
  intro p e s m args below meth c s₁ B hml hv
  obtain ⟨rfl, hsz, hP, hK, hD0⟩ := hv
  have hx := B.exec
  have hb := B.bytes
  have hr := B.returns
  have hts := atoms_spec (ws := (.code yX13_frameFor cX13_frameFor 4 (some .int) :: VS_h6)) B.pre
  replace hts := fun w (h : w ∈ VS_h6) => hts w (List.mem_cons_of_mem _ h)
  have hown : s.vm.findClass RX13 = some m.cls := findClass_of_methodNamed B.named
  have hlocks := B.notSynchronized
  subst hsz
  have hD := hD0.self (sz := s.heap.size)
  generalize hAe : va_A [(h0, .inr (13, zs)), (qf111, .inl (cf111, 96, .inl f111)), (qf100, .inl (cf100, 48000, .inl f100))] s.heap.size = A at hD  ⊢
  have hA : ∀ q : Nat, s.heap.size ≤ q → A q := fun q h => by rw [← hAe]; exact Or.inr h
  have hP : va_P (dC, dI) vwCl [(h0, .inr (13, zs)), (qf111, .inl (cf111, 96, .inl f111)), (qf100, .inl (cf100, 48000, .inl f100))] s.heap := hP
  have hl := lv_entry ([.ref h0, .int a1]) (n := 4) (Nat.le_of_ble_eq_true rfl)
  rw [lg_entry_eq]
  generalize (lg_sl ([.ref h0, .int a1]) ++ List.replicate (4 - (lg_sl ([.ref h0, .int a1])).length) Slot.unset).toArray = ls at hl ⊢
  have hl : lv_has ls 4 [(0, .ref h0), (1, .int a1)] := hl
  obtain ⟨H, hH⟩ : ∃ H : Heap, s.heap = H := ⟨_, rfl⟩
  rw [hH] at hP ⊢
  have hS : va_S A s.heap H [] := by rw [← hH]; exact va_S.rf
  obtain ⟨locs, hlo⟩ : ∃ locs : List Loc, locs = [] := ⟨_, rfl⟩
  rw [← hlo] at hS ⊢
  have hrs0 : ∀ j : Nat, zs[j]? = zs[j]? := fun _  => rfl
  unfold sp_tn_frameFor at hsp
  refine lv_aload_n hx hb dX13_frameFor_0 rfl (lv_at hl 0 rfl) ?_
  refine va_get (D := (dC, dI)) (ci := 13) (v := .ref qf111) (C := RX13) (T := TX13) (N := 155) hx hb hts uV_h6_X13 hown hK hP 0 rfl rfl 111 (by decide) (hts (.fieldLink RX13 242 "ClassMillModel" "framesAt" "[I") mw_h6_126) (fun _ h9 => h9) hf111 dX13_frameFor_1 ?_
  refine lv_bipush (v := 12) hx hb dX13_frameFor_4 (by decide) ?_
  refine lv_aload_n hx hb dX13_frameFor_6 rfl (lv_at hl 0 rfl) ?_
  refine va_get (D := (dC, dI)) (ci := 13) (v := .int v132) (C := RX13) (T := TX13) (N := 155) hx hb hts uV_h6_X13 hown hK hP 0 rfl rfl 132 (by decide) (hts (.fieldLink RX13 932 "ClassMillModel" "inClass" "I") mw_h6_113) (fun _ h9 => h9) hf132 dX13_frameFor_7 ?_
  refine lv_imul hx hb dX13_frameFor_10 ?_
  refine lv_aload_n hx hb dX13_frameFor_11 rfl (lv_at hl 0 rfl) ?_
  refine va_get (D := (dC, dI)) (ci := 13) (v := .int v133) (C := RX13) (T := TX13) (N := 155) hx hb hts uV_h6_X13 hown hK hP 0 rfl rfl 133 (by decide) (hts (.fieldLink RX13 940 "ClassMillModel" "inMethod" "I") mw_h6_127) (fun _ h9 => h9) hf133 dX13_frameFor_12 ?_
  refine lv_iadd hx hb dX13_frameFor_15 ?_
  obtain ⟨hi_1, hsp⟩ := ox_in hsp
  refine va_iald hx hb hK hP 1 0 rfl rfl (i := ((12 * v132) + v133)) hi_1 dX13_frameFor_16 ?_
  refine lv_iconst (v := 1) hx hb dX13_frameFor_17 (by decide) ?_
  refine lv_iadd hx hb dX13_frameFor_18 ?_
  refine lv_istore_n (lv' := [(2, .int ((f111 (((12 * v132) + v133) : Int32).toNatClampNeg) + 1)), (0, .ref h0), (1, .int a1)]) hx hb dX13_frameFor_19 rfl hl (by decide) rfl (fun ls hl => ?_)
  refine lv_iconst (v := 0) hx hb dX13_frameFor_20 (by decide) ?_
  refine lv_istore_n (lv' := [(3, .int 0), (2, .int ((f111 (((12 * v132) + v133) : Int32).toNatClampNeg) + 1)), (0, .ref h0), (1, .int a1)]) hx hb dX13_frameFor_21 rfl hl (by decide) rfl (fun ls hl => ?_)
  replace hP := hP.sub (ws' := [(h0, .inr (13, zs)), (qf111, .inl (cf111, 96, .inl f111)), (qf100, .inl (cf100, 48000, .inl f100))]) [0, 1, 2] rfl
  replace hD := hD.sub (ws' := [(h0, .inr (13, zs)), (qf111, .inl (cf111, 96, .inl f111)), (qf100, .inl (cf100, 48000, .inl f100))]) [0, 1, 2] (by decide) rfl
  replace hK := hK.sub (tys' := [(cf111, .int), (cf100, .int)]) [0, 1] rfl
  obtain ⟨n_22, hn_22⟩ : ∃ z : Nat, z = nf := ⟨_, rfl⟩
  obtain ⟨z22, ez22⟩ : ∃ z : List Value, z = zs := ⟨_, rfl⟩
  obtain ⟨l1_22, el1_22⟩ : ∃ z : Int32, z = a1 := ⟨_, rfl⟩
  obtain ⟨l2_22, el2_22⟩ : ∃ z : Int32, z = ((f111 (((12 * v132) + v133) : Int32).toNatClampNeg) + 1) := ⟨_, rfl⟩
  obtain ⟨l3_22, el3_22⟩ : ∃ z : Int32, z = 0 := ⟨_, rfl⟩
  replace hsp : lp_tn_frameFor_22 nf n_22 a1 v132 v133 f111 f100 l1_22 l2_22 l3_22 = some r0 := by rw [hn_22, el1_22, el2_22, el3_22]; exact hsp
  replace hl : lv_has ls 4 [(3, .int l3_22), (2, .int l2_22), (0, .ref h0), (1, .int l1_22)] := by rw [el1_22, el2_22, el3_22]; exact hl
  have hfh_22_100 : z22[100]? = some (.ref qf100) := by rw [ez22]; exact hf100
  have hfh_22_111 : z22[111]? = some (.ref qf111) := by rw [ez22]; exact hf111
  have hfh_22_132 : z22[132]? = some (.int v132) := by rw [ez22]; exact hf132
  have hfh_22_133 : z22[133]? = some (.int v133) := by rw [ez22]; exact hf133
  have hlh_22 : z22.length = 155 := by rw [ez22]; exact hlen
  have hrh_22 : ∀ j : Nat, z22[j]? = zs[j]? := by rw [ez22]; exact hrs0
  replace hP : va_P (dC, dI) vwCl [(h0, .inr (13, z22)), (qf111, .inl (cf111, 96, .inl f111)), (qf100, .inl (cf100, 48000, .inl f100))] H := by rw [ez22]; exact hP
  replace hD : va_D A [(h0, .inr (13, z22)), (qf111, .inl (cf111, 96, .inl f111)), (qf100, .inl (cf100, 48000, .inl f100))] := by rw [ez22]; exact hD
  clear hn_22 ez22 el1_22 el2_22 el3_22
  try clear hlo
  try clear hH
  revert hsp
  revert hP
  revert hD
  revert hS
  revert hl
  revert hrh_22
  revert hlh_22
  revert hfh_22_133
  revert hfh_22_132
  revert hfh_22_111
  revert hfh_22_100
  revert l3_22
  revert l2_22
  revert l1_22
  revert z22
  revert ls
  revert locs
  revert H
  induction n_22 with
  | zero => intro H locs ls z22 l1_22 l2_22 l3_22 hfh_22_100 hfh_22_111 hfh_22_132 hfh_22_133 hlh_22 hrh_22 hl hS hD hP hsp; unfold lp_tn_frameFor_22 at hsp; cases hsp
  | succ n_22 ih_22 =>
    intro H locs ls z22 l1_22 l2_22 l3_22 hfh_22_100 hfh_22_111 hfh_22_132 hfh_22_133 hlh_22 hrh_22 hl hS hD hP hsp
    unfold lp_tn_frameFor_22 at hsp
    try dsimp only at hsp
    refine lv_iload_n hx hb dX13_frameFor_22 rfl (lv_at hl 0 rfl) ?_
    refine lv_aload_n hx hb dX13_frameFor_23 rfl (lv_at hl 2 rfl) ?_
    obtain ⟨u1_0, hu_1, hsp⟩ := ox_bind hsp
    try dsimp only at hsp
    have hPc := hP.sub (ws' := [(h0, .inr (13, z22)), (qf111, .inl (cf111, 96, .inl f111)), (qf100, .inl (cf100, 48000, .inl f100))]) [0, 1, 2] rfl
    have hDc := hD.sub (ws' := [(h0, .inr (13, z22)), (qf111, .inl (cf111, 96, .inl f111)), (qf100, .inl (cf100, 48000, .inl f100))]) [0, 1, 2] (by decide) rfl
    have hKc := hK.sub (tys' := [(cf111, .int), (cf100, .int)]) [0, 1] rfl
    have hFc := va_free (wc := [(h0, .inr (13, z22)), (qf111, .inl (cf111, 96, .inl f111)), (qf100, .inl (cf100, 48000, .inl f100))]) hD hS hA [0, 1, 2] rfl
    refine va_calli (va_runV (As := []) (rest := [.int l3_22]) ⟨hx, hb, hml, hown, hts⟩ (tm_frameMany l dC dI H.size h0 z22 qf100 qf111 v132 v133 cf111 f111 cf100 f100 nf u1_0 hlh_22 hfh_22_100 hfh_22_111 hfh_22_132 hfh_22_133 hu_1) (cwV 0 hts gv_h6_23 rfl rfl rfl (by decide +kernel) ⟨Nat.le_of_ble_eq_true rfl, Nat.le_of_ble_eq_true rfl⟩) ⟨fun a U g mk q => by obtain ⟨q0, q1, qP, qK, qD⟩ := q; exact ⟨q0, q1, qP, va_K.moved (u := U) (U := U.calling g mk a) (Vm.Alike.refl U.vm) qK, qD⟩, va_recv hKc hPc (ci := 13) (q0 := 0) rfl rfl, fun U hU hW => ⟨rfl, by rw [hU], by rw [hU]; exact hPc, va_K.moved hW.alike hKc, hDc.weaken (fun _ _ _ _ => trivial)⟩⟩ rfl rfl hl.1 rfl (lv_room (Nat.le_of_ble_eq_true rfl)) dX13_frameFor_24 ⟨Nat.le_of_ble_eq_true rfl, Nat.le_of_ble_eq_true rfl⟩) hS (fun q _ h => hFc q h) hFc ?_
    clear hS
    intro r_2 u t H1 locs ht hvm hw hB hz1 hk1 hS
    obtain ⟨z_1, rfl⟩ : ∃ z, z = u := ⟨_, rfl⟩
    obtain ⟨hP1, hK1, hD1⟩ := hB
    rw [ht] at hP1
    have hK1 := va_K.moved hvm.symm hK1
    try dsimp only at hw
    have hPD := va_join (wr := []) (w1 := [(h0, .inr (13, z_1)), (qf111, .inl (cf111, 96, .inl f111)), (qf100, .inl (cf100, 48000, .inl f100))]) hP hD [0, 1, 2] [] rfl rfl (by decide) (by decide) hk1 hFc hP1 hD1
    clear hP hD
    obtain ⟨hP, hD⟩ := hPD
    replace hK := (hK.sub (tys' := []) [] rfl).app hK1
    clear hPc hDc hKc hFc hP1 hK1 hD1 hz1 hk1 ht hvm
    generalize H1 = H at hP hS ⊢
    replace hP : va_P (dC, dI) vwCl [(h0, .inr (13, z_1)), (qf111, .inl (cf111, 96, .inl f111)), (qf100, .inl (cf100, 48000, .inl f100))] H := hP
    replace hD : va_D A [(h0, .inr (13, z_1)), (qf111, .inl (cf111, 96, .inl f111)), (qf100, .inl (cf100, 48000, .inl f100))] := hD
    replace hK : va_K (dC, dI) vwCl [(cf111, .int), (cf100, .int)] s := hK
    obtain ⟨hwa_1, hln_1, hre_1⟩ := hw
    have hfk_1_100 : z_1[100]? = some (.ref qf100) := (hre_1 100 ).trans (hfh_22_100)
    have hfk_1_111 : z_1[111]? = some (.ref qf111) := (hre_1 111 ).trans (hfh_22_111)
    have hfk_1_132 : z_1[132]? = some (.int v132) := (hre_1 132 ).trans (hfh_22_132)
    have hfk_1_133 : z_1[133]? = some (.int v133) := (hre_1 133 ).trans (hfh_22_133)
    have hrq_1 : ∀ j : Nat, z_1[j]? = zs[j]? := fun j  => (hre_1 j ).trans (hrh_22 j )
    obtain rfl := hwa_1
    refine lv_icmp_ge (tgt := 59) hx hb dX13_frameFor_27 (by decide) (fun c_3 => ?_) (fun c_3 => ?_)
    · rw [if_pos c_3] at hsp
      refine lv_iconst (v := (-1)) hx hb dX13_frameFor_59 (by decide) ?_
      have hr0 := Option.some.inj hsp
      clear hsp
      subst hr0
      have hP9 := hP.sub (ws' := [(h0, .inr (13, z_1)), (qf111, .inl (cf111, 96, .inl f111)), (qf100, .inl (cf100, 48000, .inl f100))]) [0, 1, 2] rfl
      have hD9 := hD.sub (ws' := [(h0, .inr (13, z_1)), (qf111, .inl (cf111, 96, .inl f111)), (qf100, .inl (cf100, 48000, .inl f100))]) [0, 1, 2] (by decide) rfl
      have hK9 := hK.sub (tys' := [(cf111, .int), (cf100, .int)]) [0, 1] rfl
      exact W.iret hx hb hr (fun t ht hW => ⟨⟨((-1)), (z_1), rfl, ⟨rfl, hln_1, hrq_1⟩, by rw [ht]; exact hP9, va_K.moved hW.alike hK9, hD9⟩, hS.F ht⟩) hS.2.2 dX13_frameFor_60
    · rw [if_neg c_3] at hsp
      refine lv_aload_n hx hb dX13_frameFor_30 rfl (lv_at hl 2 rfl) ?_
      refine lv_iload_n hx hb dX13_frameFor_31 rfl (lv_at hl 1 rfl) ?_
      obtain ⟨u2_0, hu_2, hsp⟩ := ox_bind hsp
      try dsimp only at hsp
      have hPc := hP.sub (ws' := [(h0, .inr (13, z_1)), (qf100, .inl (cf100, 48000, .inl f100))]) [0, 2] rfl
      have hDc := hD.sub (ws' := [(h0, .inr (13, z_1)), (qf100, .inl (cf100, 48000, .inl f100))]) [0, 2] (by decide) rfl
      have hKc := hK.sub (tys' := [(cf100, .int)]) [1] rfl
      have hFc := va_free (wc := [(h0, .inr (13, z_1)), (qf100, .inl (cf100, 48000, .inl f100))]) hD hS hA [0, 2] rfl
      refine va_calli (va_runV (As := [.int l2_22]) (rest := []) ⟨hx, hb, hml, hown, hts⟩ (tm_pairIn l dC dI H.size h0 z_1 l2_22 qf100 v132 cf100 f100 nf u2_0 hln_1 hfk_1_100 hfk_1_132 hu_2) (cwV 1 hts gv_h6_24 rfl rfl rfl (by decide +kernel) ⟨Nat.le_of_ble_eq_true rfl, Nat.le_of_ble_eq_true rfl⟩) ⟨fun a U g mk q => by obtain ⟨q0, q1, qP, qK, qD⟩ := q; exact ⟨q0, q1, qP, va_K.moved (u := U) (U := U.calling g mk a) (Vm.Alike.refl U.vm) qK, qD⟩, va_recv hKc hPc (ci := 13) (q0 := 0) rfl rfl, fun U hU hW => ⟨rfl, by rw [hU], by rw [hU]; exact hPc, va_K.moved hW.alike hKc, hDc.weaken (fun _ _ _ _ => trivial)⟩⟩ rfl rfl hl.1 rfl (lv_room (Nat.le_of_ble_eq_true rfl)) dX13_frameFor_32 ⟨Nat.le_of_ble_eq_true rfl, Nat.le_of_ble_eq_true rfl⟩) hS (fun q _ h => hFc q h) hFc ?_
      clear hS
      intro r_4 u t H1 locs ht hvm hw hB hz1 hk1 hS
      obtain ⟨z_2, rfl⟩ : ∃ z, z = u := ⟨_, rfl⟩
      obtain ⟨hP1, hK1, hD1⟩ := hB
      rw [ht] at hP1
      have hK1 := va_K.moved hvm.symm hK1
      try dsimp only at hw
      have hPD := va_join (wr := [(qf111, .inl (cf111, 96, .inl f111))]) (w1 := [(h0, .inr (13, z_2)), (qf100, .inl (cf100, 48000, .inl f100))]) hP hD [0, 2] [1] rfl rfl (by decide) (by decide) hk1 hFc hP1 hD1
      clear hP hD
      obtain ⟨hP, hD⟩ := hPD
      replace hK := (hK.sub (tys' := [(cf111, .int)]) [0] rfl).app hK1
      clear hPc hDc hKc hFc hP1 hK1 hD1 hz1 hk1 ht hvm
      generalize H1 = H at hP hS ⊢
      replace hP : va_P (dC, dI) vwCl [(qf111, .inl (cf111, 96, .inl f111)), (h0, .inr (13, z_2)), (qf100, .inl (cf100, 48000, .inl f100))] H := hP
      replace hD : va_D A [(qf111, .inl (cf111, 96, .inl f111)), (h0, .inr (13, z_2)), (qf100, .inl (cf100, 48000, .inl f100))] := hD
      replace hK : va_K (dC, dI) vwCl [(cf111, .int), (cf100, .int)] s := hK
      obtain ⟨hwa_2, hln_2, hre_2⟩ := hw
      have hfk_2_100 : z_2[100]? = some (.ref qf100) := (hre_2 100 ).trans (hfk_1_100)
      have hfk_2_111 : z_2[111]? = some (.ref qf111) := (hre_2 111 ).trans (hfk_1_111)
      have hfk_2_132 : z_2[132]? = some (.int v132) := (hre_2 132 ).trans (hfk_1_132)
      have hfk_2_133 : z_2[133]? = some (.int v133) := (hre_2 133 ).trans (hfk_1_133)
      have hrq_2 : ∀ j : Nat, z_2[j]? = zs[j]? := fun j  => (hre_2 j ).trans (hrq_1 j )
      obtain rfl := hwa_2
      refine lv_iload_n hx hb dX13_frameFor_35 rfl (lv_at hl 3 rfl) ?_
      refine lv_icmp_ne (tgt := 41) hx hb dX13_frameFor_36 (by decide) (fun c_5 => ?_) (fun c_5 => ?_)
      · rw [if_neg c_5] at hsp
        refine lv_aload_n hx hb dX13_frameFor_41 rfl (lv_at hl 2 rfl) ?_
        refine lv_aload_n hx hb dX13_frameFor_42 rfl (lv_at hl 2 rfl) ?_
        refine lv_iload_n hx hb dX13_frameFor_43 rfl (lv_at hl 1 rfl) ?_
        refine lv_iconst (v := 2) hx hb dX13_frameFor_44 (by decide) ?_
        refine lv_iadd hx hb dX13_frameFor_45 ?_
        obtain ⟨u3_0, hu_3, hsp⟩ := ox_bind hsp
        try dsimp only at hsp
        have hPc := hP.sub (ws' := [(h0, .inr (13, z_2)), (qf100, .inl (cf100, 48000, .inl f100))]) [1, 2] rfl
        have hDc := hD.sub (ws' := [(h0, .inr (13, z_2)), (qf100, .inl (cf100, 48000, .inl f100))]) [1, 2] (by decide) rfl
        have hKc := hK.sub (tys' := [(cf100, .int)]) [1] rfl
        have hFc := va_free (wc := [(h0, .inr (13, z_2)), (qf100, .inl (cf100, 48000, .inl f100))]) hD hS hA [1, 2] rfl
        refine va_calli (va_runV (As := [.int (l2_22 + 2)]) (rest := [.ref h0]) ⟨hx, hb, hml, hown, hts⟩ (tn_typesEnd l dC dI H.size h0 z_2 ((l2_22 + 2)) qf100 v132 cf100 f100 nf u3_0 hln_2 hfk_2_100 hfk_2_132 hu_3) (cwV 1 hts gv_h6_25 rfl rfl rfl (by decide +kernel) ⟨Nat.le_of_ble_eq_true rfl, Nat.le_of_ble_eq_true rfl⟩) ⟨fun a U g mk q => by obtain ⟨q0, q1, qP, qK, qD⟩ := q; exact ⟨q0, q1, qP, va_K.moved (u := U) (U := U.calling g mk a) (Vm.Alike.refl U.vm) qK, qD⟩, va_recv hKc hPc (ci := 13) (q0 := 0) rfl rfl, fun U hU hW => ⟨rfl, by rw [hU], by rw [hU]; exact hPc, va_K.moved hW.alike hKc, hDc.weaken (fun _ _ _ _ => trivial)⟩⟩ rfl rfl hl.1 rfl (lv_room (Nat.le_of_ble_eq_true rfl)) dX13_frameFor_46 ⟨Nat.le_of_ble_eq_true rfl, Nat.le_of_ble_eq_true rfl⟩) hS (fun q _ h => hFc q h) hFc ?_
        clear hS
        intro r_6 u t H1 locs ht hvm hw hB hz1 hk1 hS
        obtain ⟨z_3, rfl⟩ : ∃ z, z = u := ⟨_, rfl⟩
        obtain ⟨hP1, hK1, hD1⟩ := hB
        rw [ht] at hP1
        have hK1 := va_K.moved hvm.symm hK1
        try dsimp only at hw
        have hPD := va_join (wr := [(qf111, .inl (cf111, 96, .inl f111))]) (w1 := [(h0, .inr (13, z_3)), (qf100, .inl (cf100, 48000, .inl f100))]) hP hD [1, 2] [0] rfl rfl (by decide) (by decide) hk1 hFc hP1 hD1
        clear hP hD
        obtain ⟨hP, hD⟩ := hPD
        replace hK := (hK.sub (tys' := [(cf111, .int)]) [0] rfl).app hK1
        clear hPc hDc hKc hFc hP1 hK1 hD1 hz1 hk1 ht hvm
        generalize H1 = H at hP hS ⊢
        replace hP : va_P (dC, dI) vwCl [(qf111, .inl (cf111, 96, .inl f111)), (h0, .inr (13, z_3)), (qf100, .inl (cf100, 48000, .inl f100))] H := hP
        replace hD : va_D A [(qf111, .inl (cf111, 96, .inl f111)), (h0, .inr (13, z_3)), (qf100, .inl (cf100, 48000, .inl f100))] := hD
        replace hK : va_K (dC, dI) vwCl [(cf111, .int), (cf100, .int)] s := hK
        obtain ⟨hwa_3, hln_3, hre_3⟩ := hw
        have hfk_3_100 : z_3[100]? = some (.ref qf100) := (hre_3 100 ).trans (hfk_2_100)
        have hfk_3_111 : z_3[111]? = some (.ref qf111) := (hre_3 111 ).trans (hfk_2_111)
        have hfk_3_132 : z_3[132]? = some (.int v132) := (hre_3 132 ).trans (hfk_2_132)
        have hfk_3_133 : z_3[133]? = some (.int v133) := (hre_3 133 ).trans (hfk_2_133)
        have hrq_3 : ∀ j : Nat, z_3[j]? = zs[j]? := fun j  => (hre_3 j ).trans (hrq_2 j )
        obtain rfl := hwa_3
        obtain ⟨u4_0, hu_4, hsp⟩ := ox_bind hsp
        try dsimp only at hsp
        have hPc := hP.sub (ws' := [(h0, .inr (13, z_3)), (qf100, .inl (cf100, 48000, .inl f100))]) [1, 2] rfl
        have hDc := hD.sub (ws' := [(h0, .inr (13, z_3)), (qf100, .inl (cf100, 48000, .inl f100))]) [1, 2] (by decide) rfl
        have hKc := hK.sub (tys' := [(cf100, .int)]) [1] rfl
        have hFc := va_free (wc := [(h0, .inr (13, z_3)), (qf100, .inl (cf100, 48000, .inl f100))]) hD hS hA [1, 2] rfl
        refine va_calli (va_runV (As := [.int u3_0]) (rest := []) ⟨hx, hb, hml, hown, hts⟩ (tn_typesEnd l dC dI H.size h0 z_3 u3_0 qf100 v132 cf100 f100 nf u4_0 hln_3 hfk_3_100 hfk_3_132 hu_4) (cwV 1 hts gv_h6_25 rfl rfl rfl (by decide +kernel) ⟨Nat.le_of_ble_eq_true rfl, Nat.le_of_ble_eq_true rfl⟩) ⟨fun a U g mk q => by obtain ⟨q0, q1, qP, qK, qD⟩ := q; exact ⟨q0, q1, qP, va_K.moved (u := U) (U := U.calling g mk a) (Vm.Alike.refl U.vm) qK, qD⟩, va_recv hKc hPc (ci := 13) (q0 := 0) rfl rfl, fun U hU hW => ⟨rfl, by rw [hU], by rw [hU]; exact hPc, va_K.moved hW.alike hKc, hDc.weaken (fun _ _ _ _ => trivial)⟩⟩ rfl rfl hl.1 rfl (lv_room (Nat.le_of_ble_eq_true rfl)) dX13_frameFor_49 ⟨Nat.le_of_ble_eq_true rfl, Nat.le_of_ble_eq_true rfl⟩) hS (fun q _ h => hFc q h) hFc ?_
        clear hS
        intro r_7 u t H1 locs ht hvm hw hB hz1 hk1 hS
        obtain ⟨z_4, rfl⟩ : ∃ z, z = u := ⟨_, rfl⟩
        obtain ⟨hP1, hK1, hD1⟩ := hB
        rw [ht] at hP1
        have hK1 := va_K.moved hvm.symm hK1
        try dsimp only at hw
        have hPD := va_join (wr := [(qf111, .inl (cf111, 96, .inl f111))]) (w1 := [(h0, .inr (13, z_4)), (qf100, .inl (cf100, 48000, .inl f100))]) hP hD [1, 2] [0] rfl rfl (by decide) (by decide) hk1 hFc hP1 hD1
        clear hP hD
        obtain ⟨hP, hD⟩ := hPD
        replace hK := (hK.sub (tys' := [(cf111, .int)]) [0] rfl).app hK1
        clear hPc hDc hKc hFc hP1 hK1 hD1 hz1 hk1 ht hvm
        generalize H1 = H at hP hS ⊢
        replace hP : va_P (dC, dI) vwCl [(qf111, .inl (cf111, 96, .inl f111)), (h0, .inr (13, z_4)), (qf100, .inl (cf100, 48000, .inl f100))] H := hP
        replace hD : va_D A [(qf111, .inl (cf111, 96, .inl f111)), (h0, .inr (13, z_4)), (qf100, .inl (cf100, 48000, .inl f100))] := hD
        replace hK : va_K (dC, dI) vwCl [(cf111, .int), (cf100, .int)] s := hK
        obtain ⟨hwa_4, hln_4, hre_4⟩ := hw
        have hfk_4_100 : z_4[100]? = some (.ref qf100) := (hre_4 100 ).trans (hfk_3_100)
        have hfk_4_111 : z_4[111]? = some (.ref qf111) := (hre_4 111 ).trans (hfk_3_111)
        have hfk_4_132 : z_4[132]? = some (.int v132) := (hre_4 132 ).trans (hfk_3_132)
        have hfk_4_133 : z_4[133]? = some (.int v133) := (hre_4 133 ).trans (hfk_3_133)
        have hrq_4 : ∀ j : Nat, z_4[j]? = zs[j]? := fun j  => (hre_4 j ).trans (hrq_3 j )
        obtain rfl := hwa_4
        refine lv_istore_n (lv' := [(2, .int u4_0), (3, .int l3_22), (0, .ref h0), (1, .int l1_22)]) hx hb dX13_frameFor_52 rfl hl (by decide) rfl (fun ls hl => ?_)
        refine lv_iinc (v := (l3_22 + 1)) (lv' := [(3, .int (l3_22 + 1)), (2, .int u4_0), (0, .ref h0), (1, .int l1_22)]) hx hb dX13_frameFor_53 hl (k := 1) rfl rfl (by decide) rfl (fun ls hl => ?_)
        refine lv_goto (tgt := 22) hx hb dX13_frameFor_56 (by decide) ?_
        exact ih_22 H locs ls z_4 l1_22 u4_0 (l3_22 + 1) (hfk_4_100) (hfk_4_111) (hfk_4_132) (hfk_4_133) hln_4 hrq_4 (lv_sub hl [0, 1, 2, 3] rfl) hS (hD.sub (ws' := [(h0, .inr (13, z_4)), (qf111, .inl (cf111, 96, .inl f111)), (qf100, .inl (cf100, 48000, .inl f100))]) [1, 0, 2] (by decide) rfl) (hP.sub (ws' := [(h0, .inr (13, z_4)), (qf111, .inl (cf111, 96, .inl f111)), (qf100, .inl (cf100, 48000, .inl f100))]) [1, 0, 2] rfl) hsp
      · rw [if_pos c_5] at hsp
        refine lv_iload_n hx hb dX13_frameFor_39 rfl (lv_at hl 1 rfl) ?_
        have hr0 := Option.some.inj hsp
        clear hsp
        subst hr0
        have hP9 := hP.sub (ws' := [(h0, .inr (13, z_2)), (qf111, .inl (cf111, 96, .inl f111)), (qf100, .inl (cf100, 48000, .inl f100))]) [1, 0, 2] rfl
        have hD9 := hD.sub (ws' := [(h0, .inr (13, z_2)), (qf111, .inl (cf111, 96, .inl f111)), (qf100, .inl (cf100, 48000, .inl f100))]) [1, 0, 2] (by decide) rfl
        have hK9 := hK.sub (tys' := [(cf111, .int), (cf100, .int)]) [0, 1] rfl
        exact W.iret hx hb hr (fun t ht hW => ⟨⟨(l2_22), (z_2), rfl, ⟨rfl, hln_2, hrq_2⟩, by rw [ht]; exact hP9, va_K.moved hW.alike hK9, hD9⟩, hS.F ht⟩) hS.2.2 dX13_frameFor_40
def sp_tn_at_ (nf : Nat) (a1 : Int32) (a2 : Int32) (f109 : Nat → Int32) (f100 : Nat → Int32) : Option (Int32 × Int32 × Int32 × Int32 × Int32 × Int32) := (if ((12 * (a1 - 8)) + a2) < 0 then none else if 96 ≤ (((12 * (a1 - 8)) + a2) : Int32).toNatClampNeg then none else ((sp_tm_byteAt nf (a1 - 8) ((f109 (((12 * (a1 - 8)) + a2) : Int32).toNatClampNeg) + 3) f100).bind (fun p1 => ((sp_tm_byteAt nf (a1 - 8) ((f109 (((12 * (a1 - 8)) + a2) : Int32).toNatClampNeg) + 4) f100).bind (fun p2 => ((sp_tm_pairIn nf ((f109 (((12 * (a1 - 8)) + a2) : Int32).toNatClampNeg) + 5) (a1 - 8) f100).bind (fun p3 => (some (p2, p1, (a1 - 8), a2, ((f109 (((12 * (a1 - 8)) + a2) : Int32).toNatClampNeg) + 7), p3)))))))))
set_option maxHeartbeats 4000000 in
set_option maxRecDepth 100000 in
/-- ClassMillModel.at -/
theorem tn_at_ (l : Launch) (dC : Nat → ClassId) (dI : Nat → Nat → Nat) (sz : Nat) (h0 : Nat) (zs : (List Value)) (a1 : Int32) (a2 : Int32) (qf100 : Nat) (qf109 : Nat) (v129 : Int32) (v130 : Int32) (v132 : Int32) (v133 : Int32) (v134 : Int32) (v135 : Int32) (cf109 : ClassId) (f109 : (Nat → Int32)) (cf100 : ClassId) (f100 : (Nat → Int32)) (nf : Nat) (w129 : Int32) (w130 : Int32) (w132 : Int32) (w133 : Int32) (w134 : Int32) (w135 : Int32) (hlen : zs.length = 155) (hf100 : zs[100]? = some (.ref qf100)) (hf109 : zs[109]? = some (.ref qf109)) (hf129 : zs[129]? = some (.int v129)) (hf130 : zs[130]? = some (.int v130)) (hf132 : zs[132]? = some (.int v132)) (hf133 : zs[133]? = some (.int v133)) (hf134 : zs[134]? = some (.int v134)) (hf135 : zs[135]? = some (.int v135)) (hsp : sp_tn_at_ nf a1 a2 f109 f100 = some (w129, w130, w132, w133, w134, w135)) : Met l yX13_at_ (.code yX13_at_ cX13_at_ 4 none :: VS_h6) ({ frames := 2, cells := 0, slots := 0, locals := 43 }) (va_Pc [.ref h0, .int a1, .int a2] (fun U => U.heap.size = sz ∧ va_P (dC, dI) vwCl [(h0, .inr (13, zs)), (qf109, .inl (cf109, 96, .inl f109)), (qf100, .inl (cf100, 48000, .inl f100))] U.heap ∧ va_K (dC, dI) vwCl [(cf109, .int), (cf100, .int)] U ∧ va_D (fun _ => True) [(h0, .inr (13, zs)), (qf109, .inl (cf109, 96, .inl f109)), (qf100, .inl (cf100, 48000, .inl f100))])) (va_Qv (fun (u : (List Value)) => match u with | (zo1) => True ∧ zo1.length = 155 ∧ (∀ j : Nat, j ≠ 129 → j ≠ 130 → j ≠ 132 → j ≠ 133 → j ≠ 134 → j ≠ 135 → zo1[j]? = zs[j]?) ∧ zo1[129]? = some (.int w129) ∧ zo1[130]? = some (.int w130) ∧ zo1[132]? = some (.int w132) ∧ zo1[133]? = some (.int w133) ∧ zo1[134]? = some (.int w134) ∧ zo1[135]? = some (.int w135)) (fun (u : (List Value)) (t : State) => match u with | (zo1) => va_P (dC, dI) vwCl [(h0, .inr (13, zo1)), (qf109, .inl (cf109, 96, .inl f109)), (qf100, .inl (cf100, 48000, .inl f100))] t.heap ∧ va_K (dC, dI) vwCl [(cf109, .int), (cf100, .int)] t ∧ va_D (va_A [(h0, .inr (13, zs)), (qf109, .inl (cf109, 96, .inl f109)), (qf100, .inl (cf100, 48000, .inl f100))] sz) [(h0, .inr (13, zo1)), (qf109, .inl (cf109, 96, .inl f109)), (qf100, .inl (cf100, 48000, .inl f100))]) (va_A [(h0, .inr (13, zs)), (qf109, .inl (cf109, 96, .inl f109)), (qf100, .inl (cf100, 48000, .inl f100))] sz)) 0 0 (va_A [(h0, .inr (13, zs)), (qf109, .inl (cf109, 96, .inl f109)), (qf100, .inl (cf100, 48000, .inl f100))] sz) := by
  refine Met.ofW (cc := cX13_at_) (maxL := 4) (ret := none) (by decide) rfl ?_
  intro p e s m args below meth c s₁ B hml hv
  obtain ⟨rfl, hsz, hP, hK, hD0⟩ := hv
  have hx := B.exec
  have hb := B.bytes
  have hr := B.returns
  have hts := atoms_spec (ws := (.code yX13_at_ cX13_at_ 4 none :: VS_h6)) B.pre
  replace hts := fun w (h : w ∈ VS_h6) => hts w (List.mem_cons_of_mem _ h)
  have hown : s.vm.findClass RX13 = some m.cls := findClass_of_methodNamed B.named
  have hlocks := B.notSynchronized
  subst hsz
  have hD := hD0.self (sz := s.heap.size)
  generalize hAe : va_A [(h0, .inr (13, zs)), (qf109, .inl (cf109, 96, .inl f109)), (qf100, .inl (cf100, 48000, .inl f100))] s.heap.size = A at hD  ⊢
  have hA : ∀ q : Nat, s.heap.size ≤ q → A q := fun q h => by rw [← hAe]; exact Or.inr h
  have hP : va_P (dC, dI) vwCl [(h0, .inr (13, zs)), (qf109, .inl (cf109, 96, .inl f109)), (qf100, .inl (cf100, 48000, .inl f100))] s.heap := hP
  have hl := lv_entry ([.ref h0, .int a1, .int a2]) (n := 4) (Nat.le_of_ble_eq_true rfl)
  rw [lg_entry_eq]
  generalize (lg_sl ([.ref h0, .int a1, .int a2]) ++ List.replicate (4 - (lg_sl ([.ref h0, .int a1, .int a2])).length) Slot.unset).toArray = ls at hl ⊢
  have hl : lv_has ls 4 [(0, .ref h0), (1, .int a1), (2, .int a2)] := hl
  obtain ⟨H, hH⟩ : ∃ H : Heap, s.heap = H := ⟨_, rfl⟩
  rw [hH] at hP ⊢
  have hS : va_S A s.heap H [] := by rw [← hH]; exact va_S.rf
  obtain ⟨locs, hlo⟩ : ∃ locs : List Loc, locs = [] := ⟨_, rfl⟩
  rw [← hlo] at hS ⊢
  have hrs0 : ∀ j : Nat, j ≠ 129 → j ≠ 130 → j ≠ 132 → j ≠ 133 → j ≠ 134 → j ≠ 135 → zs[j]? = zs[j]? := fun _ _ _ _ _ _ _  => rfl
  unfold sp_tn_at_ at hsp
  refine lv_aload_n hx hb dX13_at__0 rfl (lv_at hl 0 rfl) ?_
  refine lv_iload_n hx hb dX13_at__1 rfl (lv_at hl 1 rfl) ?_
  refine lv_bipush (v := 8) hx hb dX13_at__2 (by decide) ?_
  refine lv_isub hx hb dX13_at__4 ?_
  refine va_put (D := (dC, dI)) (ci := 13) (v := .int (a1 - 8)) (ty := .int) (C := RX13) (T := TX13) (N := 155) hx hb hts uV_h6_X13 tyX13 tyX13_ok nmX13 hown hK hP hD hS 0 rfl rfl 132 (by decide) (hts (.fieldLink RX13 932 "ClassMillModel" "inClass" "I") mw_h6_113) (fun _ h9 => h9) rfl (by decide +kernel) rfl rfl (by rw [hlen]; decide) dX13_at__5 ?_
  clear hP hD hS
  intro H locs hP hD hS
  obtain ⟨fs_1, efs_1⟩ : ∃ zf : List Value, zf = zs.set 132 (.int (a1 - 8)) := ⟨_, rfl⟩
  rw [← efs_1] at hP hD
  have hlfs_1 : fs_1.length = 155 := by rw [efs_1, List.length_set]; exact hlen
  have hfs_1_100 : fs_1[100]? = some (.ref qf100) := by rw [efs_1, List.getElem?_set_ne (by decide)]; exact hf100
  have hfs_1_109 : fs_1[109]? = some (.ref qf109) := by rw [efs_1, List.getElem?_set_ne (by decide)]; exact hf109
  have hfs_1_129 : fs_1[129]? = some (.int v129) := by rw [efs_1, List.getElem?_set_ne (by decide)]; exact hf129
  have hfs_1_130 : fs_1[130]? = some (.int v130) := by rw [efs_1, List.getElem?_set_ne (by decide)]; exact hf130
  have hfs_1_133 : fs_1[133]? = some (.int v133) := by rw [efs_1, List.getElem?_set_ne (by decide)]; exact hf133
  have hfs_1_134 : fs_1[134]? = some (.int v134) := by rw [efs_1, List.getElem?_set_ne (by decide)]; exact hf134
  have hfs_1_135 : fs_1[135]? = some (.int v135) := by rw [efs_1, List.getElem?_set_ne (by decide)]; exact hf135
  have hfs_1_132 : fs_1[132]? = some (.int (a1 - 8)) := by rw [efs_1, List.getElem?_set_self (by rw [hlen]; decide)]
  replace hP : va_P (dC, dI) vwCl [(h0, .inr (13, fs_1)), (qf109, .inl (cf109, 96, .inl f109)), (qf100, .inl (cf100, 48000, .inl f100))] H := hP
  replace hD : va_D A [(h0, .inr (13, fs_1)), (qf109, .inl (cf109, 96, .inl f109)), (qf100, .inl (cf100, 48000, .inl f100))] := hD
  have hrs_2 : ∀ j : Nat, j ≠ 129 → j ≠ 130 → j ≠ 132 → j ≠ 133 → j ≠ 134 → j ≠ 135 → fs_1[j]? = zs[j]? := fun j g129 g130 g132 g133 g134 g135 => ((congrArg (fun z : List Value => z[j]?) efs_1).trans (List.getElem?_set_ne (Ne.symm g132))).trans (hrs0 j g129 g130 g132 g133 g134 g135)
  refine lv_aload_n hx hb dX13_at__8 rfl (lv_at hl 0 rfl) ?_
  refine lv_iload_n hx hb dX13_at__9 rfl (lv_at hl 2 rfl) ?_
  refine va_put (D := (dC, dI)) (ci := 13) (v := .int a2) (ty := .int) (C := RX13) (T := TX13) (N := 155) hx hb hts uV_h6_X13 tyX13 tyX13_ok nmX13 hown hK hP hD hS 0 rfl rfl 133 (by decide) (hts (.fieldLink RX13 940 "ClassMillModel" "inMethod" "I") mw_h6_127) (fun _ h9 => h9) rfl (by decide +kernel) rfl rfl (by rw [hlfs_1]; decide) dX13_at__10 ?_
  clear hP hD hS
  intro H locs hP hD hS
  obtain ⟨fs_3, efs_3⟩ : ∃ zf : List Value, zf = fs_1.set 133 (.int a2) := ⟨_, rfl⟩
  rw [← efs_3] at hP hD
  have hlfs_3 : fs_3.length = 155 := by rw [efs_3, List.length_set]; exact hlfs_1
  have hfs_3_100 : fs_3[100]? = some (.ref qf100) := by rw [efs_3, List.getElem?_set_ne (by decide)]; exact hfs_1_100
  have hfs_3_109 : fs_3[109]? = some (.ref qf109) := by rw [efs_3, List.getElem?_set_ne (by decide)]; exact hfs_1_109
  have hfs_3_129 : fs_3[129]? = some (.int v129) := by rw [efs_3, List.getElem?_set_ne (by decide)]; exact hfs_1_129
  have hfs_3_130 : fs_3[130]? = some (.int v130) := by rw [efs_3, List.getElem?_set_ne (by decide)]; exact hfs_1_130
  have hfs_3_134 : fs_3[134]? = some (.int v134) := by rw [efs_3, List.getElem?_set_ne (by decide)]; exact hfs_1_134
  have hfs_3_135 : fs_3[135]? = some (.int v135) := by rw [efs_3, List.getElem?_set_ne (by decide)]; exact hfs_1_135
  have hfs_3_132 : fs_3[132]? = some (.int (a1 - 8)) := by rw [efs_3, List.getElem?_set_ne (by decide)]; exact hfs_1_132
  have hfs_3_133 : fs_3[133]? = some (.int a2) := by rw [efs_3, List.getElem?_set_self (by rw [hlfs_1]; decide)]
  replace hP : va_P (dC, dI) vwCl [(h0, .inr (13, fs_3)), (qf109, .inl (cf109, 96, .inl f109)), (qf100, .inl (cf100, 48000, .inl f100))] H := hP
  replace hD : va_D A [(h0, .inr (13, fs_3)), (qf109, .inl (cf109, 96, .inl f109)), (qf100, .inl (cf100, 48000, .inl f100))] := hD
  have hrs_4 : ∀ j : Nat, j ≠ 129 → j ≠ 130 → j ≠ 132 → j ≠ 133 → j ≠ 134 → j ≠ 135 → fs_3[j]? = zs[j]? := fun j g129 g130 g132 g133 g134 g135 => ((congrArg (fun z : List Value => z[j]?) efs_3).trans (List.getElem?_set_ne (Ne.symm g133))).trans (hrs_2 j g129 g130 g132 g133 g134 g135)
  refine lv_aload_n hx hb dX13_at__13 rfl (lv_at hl 0 rfl) ?_
  refine va_get (D := (dC, dI)) (ci := 13) (v := .ref qf109) (C := RX13) (T := TX13) (N := 155) hx hb hts uV_h6_X13 hown hK hP 0 rfl rfl 109 (by decide) (hts (.fieldLink RX13 236 "ClassMillModel" "methodAt" "[I") mw_h6_128) (fun _ h9 => h9) hfs_3_109 dX13_at__14 ?_
  refine lv_bipush (v := 12) hx hb dX13_at__17 (by decide) ?_
  refine lv_aload_n hx hb dX13_at__19 rfl (lv_at hl 0 rfl) ?_
  refine va_get (D := (dC, dI)) (ci := 13) (v := .int (a1 - 8)) (C := RX13) (T := TX13) (N := 155) hx hb hts uV_h6_X13 hown hK hP 0 rfl rfl 132 (by decide) (hts (.fieldLink RX13 932 "ClassMillModel" "inClass" "I") mw_h6_113) (fun _ h9 => h9) hfs_3_132 dX13_at__20 ?_
  refine lv_imul hx hb dX13_at__23 ?_
  refine lv_iload_n hx hb dX13_at__24 rfl (lv_at hl 2 rfl) ?_
  refine lv_iadd hx hb dX13_at__25 ?_
  obtain ⟨hi_5, hsp⟩ := ox_in hsp
  refine va_iald hx hb hK hP 1 0 rfl rfl (i := ((12 * (a1 - 8)) + a2)) hi_5 dX13_at__26 ?_
  refine lv_istore_n (lv' := [(3, .int (f109 (((12 * (a1 - 8)) + a2) : Int32).toNatClampNeg)), (0, .ref h0), (1, .int a1), (2, .int a2)]) hx hb dX13_at__27 rfl hl (by decide) rfl (fun ls hl => ?_)
  refine lv_aload_n hx hb dX13_at__28 rfl (lv_at hl 1 rfl) ?_
  refine lv_aload_n hx hb dX13_at__29 rfl (lv_at hl 1 rfl) ?_
  refine lv_aload_n hx hb dX13_at__30 rfl (lv_at hl 1 rfl) ?_
  refine va_get (D := (dC, dI)) (ci := 13) (v := .int (a1 - 8)) (C := RX13) (T := TX13) (N := 155) hx hb hts uV_h6_X13 hown hK hP 0 rfl rfl 132 (by decide) (hts (.fieldLink RX13 932 "ClassMillModel" "inClass" "I") mw_h6_113) (fun _ h9 => h9) hfs_3_132 dX13_at__31 ?_
  refine lv_iload_n hx hb dX13_at__34 rfl (lv_at hl 0 rfl) ?_
  refine lv_iconst (v := 3) hx hb dX13_at__35 (by decide) ?_
  refine lv_iadd hx hb dX13_at__36 ?_
  obtain ⟨u1_0, hu_1, hsp⟩ := ox_bind hsp
  try dsimp only at hsp
  have hPc := hP.sub (ws' := [(h0, .inr (13, fs_3)), (qf100, .inl (cf100, 48000, .inl f100))]) [0, 2] rfl
  have hDc := hD.sub (ws' := [(h0, .inr (13, fs_3)), (qf100, .inl (cf100, 48000, .inl f100))]) [0, 2] (by decide) rfl
  have hKc := hK.sub (tys' := [(cf100, .int)]) [1] rfl
  have hFc := va_free (wc := [(h0, .inr (13, fs_3)), (qf100, .inl (cf100, 48000, .inl f100))]) hD hS hA [0, 2] rfl
  refine va_calli (va_runV (As := [.int (a1 - 8), .int ((f109 (((12 * (a1 - 8)) + a2) : Int32).toNatClampNeg) + 3)]) (rest := [.ref h0]) ⟨hx, hb, hml, hown, hts⟩ (tm_byteAt l dC dI H.size h0 fs_3 ((a1 - 8)) (((f109 (((12 * (a1 - 8)) + a2) : Int32).toNatClampNeg) + 3)) qf100 cf100 f100 nf u1_0 hlfs_3 hfs_3_100 hu_1) (cwV 2 hts gv_h6_22 rfl rfl rfl (by decide +kernel) ⟨Nat.le_of_ble_eq_true rfl, Nat.le_of_ble_eq_true rfl⟩) ⟨fun a U g mk q => by obtain ⟨q0, q1, qP, qK, qD⟩ := q; exact ⟨q0, q1, qP, va_K.moved (u := U) (U := U.calling g mk a) (Vm.Alike.refl U.vm) qK, qD⟩, va_recv hKc hPc (ci := 13) (q0 := 0) rfl rfl, fun U hU hW => ⟨rfl, by rw [hU], by rw [hU]; exact hPc, va_K.moved hW.alike hKc, hDc.weaken (fun _ _ _ _ => trivial)⟩⟩ rfl rfl hl.1 rfl (lv_room (Nat.le_of_ble_eq_true rfl)) dX13_at__37 ⟨Nat.le_of_ble_eq_true rfl, Nat.le_of_ble_eq_true rfl⟩) hS (fun q _ h => hFc q h) hFc ?_
  clear hS
  intro r_6 u t H1 locs ht hvm hw hB hz1 hk1 hS
  obtain ⟨z_1, rfl⟩ : ∃ z, z = u := ⟨_, rfl⟩
  obtain ⟨hP1, hK1, hD1⟩ := hB
  rw [ht] at hP1
  have hK1 := va_K.moved hvm.symm hK1
  try dsimp only at hw
  have hPD := va_join (wr := [(qf109, .inl (cf109, 96, .inl f109))]) (w1 := [(h0, .inr (13, z_1)), (qf100, .inl (cf100, 48000, .inl f100))]) hP hD [0, 2] [1] rfl rfl (by decide) (by decide) hk1 hFc hP1 hD1
  clear hP hD
  obtain ⟨hP, hD⟩ := hPD
  replace hK := (hK.sub (tys' := [(cf109, .int)]) [0] rfl).app hK1
  clear hPc hDc hKc hFc hP1 hK1 hD1 hz1 hk1 ht hvm
  generalize H1 = H at hP hS ⊢
  replace hP : va_P (dC, dI) vwCl [(qf109, .inl (cf109, 96, .inl f109)), (h0, .inr (13, z_1)), (qf100, .inl (cf100, 48000, .inl f100))] H := hP
  replace hD : va_D A [(qf109, .inl (cf109, 96, .inl f109)), (h0, .inr (13, z_1)), (qf100, .inl (cf100, 48000, .inl f100))] := hD
  replace hK : va_K (dC, dI) vwCl [(cf109, .int), (cf100, .int)] s := hK
  obtain ⟨hwa_1, hln_1, hre_1⟩ := hw
  have hfk_1_100 : z_1[100]? = some (.ref qf100) := (hre_1 100 ).trans (hfs_3_100)
  have hfk_1_109 : z_1[109]? = some (.ref qf109) := (hre_1 109 ).trans (hfs_3_109)
  have hfk_1_129 : z_1[129]? = some (.int v129) := (hre_1 129 ).trans (hfs_3_129)
  have hfk_1_130 : z_1[130]? = some (.int v130) := (hre_1 130 ).trans (hfs_3_130)
  have hfk_1_132 : z_1[132]? = some (.int (a1 - 8)) := (hre_1 132 ).trans (hfs_3_132)
  have hfk_1_133 : z_1[133]? = some (.int a2) := (hre_1 133 ).trans (hfs_3_133)
  have hfk_1_134 : z_1[134]? = some (.int v134) := (hre_1 134 ).trans (hfs_3_134)
  have hfk_1_135 : z_1[135]? = some (.int v135) := (hre_1 135 ).trans (hfs_3_135)
  have hrq_1 : ∀ j : Nat, j ≠ 129 → j ≠ 130 → j ≠ 132 → j ≠ 133 → j ≠ 134 → j ≠ 135 → z_1[j]? = zs[j]? := fun j g129 g130 g132 g133 g134 g135 => (hre_1 j ).trans (hrs_4 j g129 g130 g132 g133 g134 g135)
  obtain rfl := hwa_1
  refine va_put (D := (dC, dI)) (ci := 13) (v := .int u1_0) (ty := .int) (C := RX13) (T := TX13) (N := 155) hx hb hts uV_h6_X13 tyX13 tyX13_ok nmX13 hown hK hP hD hS 1 rfl rfl 130 (by decide) (hts (.fieldLink RX13 967 "ClassMillModel" "stackMost" "I") mw_h6_129) (fun _ h9 => h9) rfl (by decide +kernel) rfl rfl (by rw [hln_1]; decide) dX13_at__40 ?_
  clear hP hD hS
  intro H locs hP hD hS
  obtain ⟨fs_7, efs_7⟩ : ∃ zf : List Value, zf = z_1.set 130 (.int u1_0) := ⟨_, rfl⟩
  rw [← efs_7] at hP hD
  have hlfs_7 : fs_7.length = 155 := by rw [efs_7, List.length_set]; exact hln_1
  have hfs_7_100 : fs_7[100]? = some (.ref qf100) := by rw [efs_7, List.getElem?_set_ne (by decide)]; exact hfk_1_100
  have hfs_7_109 : fs_7[109]? = some (.ref qf109) := by rw [efs_7, List.getElem?_set_ne (by decide)]; exact hfk_1_109
  have hfs_7_129 : fs_7[129]? = some (.int v129) := by rw [efs_7, List.getElem?_set_ne (by decide)]; exact hfk_1_129
  have hfs_7_132 : fs_7[132]? = some (.int (a1 - 8)) := by rw [efs_7, List.getElem?_set_ne (by decide)]; exact hfk_1_132
  have hfs_7_133 : fs_7[133]? = some (.int a2) := by rw [efs_7, List.getElem?_set_ne (by decide)]; exact hfk_1_133
  have hfs_7_134 : fs_7[134]? = some (.int v134) := by rw [efs_7, List.getElem?_set_ne (by decide)]; exact hfk_1_134
  have hfs_7_135 : fs_7[135]? = some (.int v135) := by rw [efs_7, List.getElem?_set_ne (by decide)]; exact hfk_1_135
  have hfs_7_130 : fs_7[130]? = some (.int u1_0) := by rw [efs_7, List.getElem?_set_self (by rw [hln_1]; decide)]
  replace hP : va_P (dC, dI) vwCl [(qf109, .inl (cf109, 96, .inl f109)), (h0, .inr (13, fs_7)), (qf100, .inl (cf100, 48000, .inl f100))] H := hP
  replace hD : va_D A [(qf109, .inl (cf109, 96, .inl f109)), (h0, .inr (13, fs_7)), (qf100, .inl (cf100, 48000, .inl f100))] := hD
  have hrs_8 : ∀ j : Nat, j ≠ 129 → j ≠ 130 → j ≠ 132 → j ≠ 133 → j ≠ 134 → j ≠ 135 → fs_7[j]? = zs[j]? := fun j g129 g130 g132 g133 g134 g135 => ((congrArg (fun z : List Value => z[j]?) efs_7).trans (List.getElem?_set_ne (Ne.symm g130))).trans (hrq_1 j g129 g130 g132 g133 g134 g135)
  refine lv_aload_n hx hb dX13_at__43 rfl (lv_at hl 1 rfl) ?_
  refine lv_aload_n hx hb dX13_at__44 rfl (lv_at hl 1 rfl) ?_
  refine lv_aload_n hx hb dX13_at__45 rfl (lv_at hl 1 rfl) ?_
  refine va_get (D := (dC, dI)) (ci := 13) (v := .int (a1 - 8)) (C := RX13) (T := TX13) (N := 155) hx hb hts uV_h6_X13 hown hK hP 1 rfl rfl 132 (by decide) (hts (.fieldLink RX13 932 "ClassMillModel" "inClass" "I") mw_h6_113) (fun _ h9 => h9) hfs_7_132 dX13_at__46 ?_
  refine lv_iload_n hx hb dX13_at__49 rfl (lv_at hl 0 rfl) ?_
  refine lv_iconst (v := 4) hx hb dX13_at__50 (by decide) ?_
  refine lv_iadd hx hb dX13_at__51 ?_
  obtain ⟨u2_0, hu_2, hsp⟩ := ox_bind hsp
  try dsimp only at hsp
  have hPc := hP.sub (ws' := [(h0, .inr (13, fs_7)), (qf100, .inl (cf100, 48000, .inl f100))]) [1, 2] rfl
  have hDc := hD.sub (ws' := [(h0, .inr (13, fs_7)), (qf100, .inl (cf100, 48000, .inl f100))]) [1, 2] (by decide) rfl
  have hKc := hK.sub (tys' := [(cf100, .int)]) [1] rfl
  have hFc := va_free (wc := [(h0, .inr (13, fs_7)), (qf100, .inl (cf100, 48000, .inl f100))]) hD hS hA [1, 2] rfl
  refine va_calli (va_runV (As := [.int (a1 - 8), .int ((f109 (((12 * (a1 - 8)) + a2) : Int32).toNatClampNeg) + 4)]) (rest := [.ref h0]) ⟨hx, hb, hml, hown, hts⟩ (tm_byteAt l dC dI H.size h0 fs_7 ((a1 - 8)) (((f109 (((12 * (a1 - 8)) + a2) : Int32).toNatClampNeg) + 4)) qf100 cf100 f100 nf u2_0 hlfs_7 hfs_7_100 hu_2) (cwV 2 hts gv_h6_22 rfl rfl rfl (by decide +kernel) ⟨Nat.le_of_ble_eq_true rfl, Nat.le_of_ble_eq_true rfl⟩) ⟨fun a U g mk q => by obtain ⟨q0, q1, qP, qK, qD⟩ := q; exact ⟨q0, q1, qP, va_K.moved (u := U) (U := U.calling g mk a) (Vm.Alike.refl U.vm) qK, qD⟩, va_recv hKc hPc (ci := 13) (q0 := 0) rfl rfl, fun U hU hW => ⟨rfl, by rw [hU], by rw [hU]; exact hPc, va_K.moved hW.alike hKc, hDc.weaken (fun _ _ _ _ => trivial)⟩⟩ rfl rfl hl.1 rfl (lv_room (Nat.le_of_ble_eq_true rfl)) dX13_at__52 ⟨Nat.le_of_ble_eq_true rfl, Nat.le_of_ble_eq_true rfl⟩) hS (fun q _ h => hFc q h) hFc ?_
  clear hS
  intro r_9 u t H1 locs ht hvm hw hB hz1 hk1 hS
  obtain ⟨z_2, rfl⟩ : ∃ z, z = u := ⟨_, rfl⟩
  obtain ⟨hP1, hK1, hD1⟩ := hB
  rw [ht] at hP1
  have hK1 := va_K.moved hvm.symm hK1
  try dsimp only at hw
  have hPD := va_join (wr := [(qf109, .inl (cf109, 96, .inl f109))]) (w1 := [(h0, .inr (13, z_2)), (qf100, .inl (cf100, 48000, .inl f100))]) hP hD [1, 2] [0] rfl rfl (by decide) (by decide) hk1 hFc hP1 hD1
  clear hP hD
  obtain ⟨hP, hD⟩ := hPD
  replace hK := (hK.sub (tys' := [(cf109, .int)]) [0] rfl).app hK1
  clear hPc hDc hKc hFc hP1 hK1 hD1 hz1 hk1 ht hvm
  generalize H1 = H at hP hS ⊢
  replace hP : va_P (dC, dI) vwCl [(qf109, .inl (cf109, 96, .inl f109)), (h0, .inr (13, z_2)), (qf100, .inl (cf100, 48000, .inl f100))] H := hP
  replace hD : va_D A [(qf109, .inl (cf109, 96, .inl f109)), (h0, .inr (13, z_2)), (qf100, .inl (cf100, 48000, .inl f100))] := hD
  replace hK : va_K (dC, dI) vwCl [(cf109, .int), (cf100, .int)] s := hK
  obtain ⟨hwa_2, hln_2, hre_2⟩ := hw
  have hfk_2_100 : z_2[100]? = some (.ref qf100) := (hre_2 100 ).trans (hfs_7_100)
  have hfk_2_109 : z_2[109]? = some (.ref qf109) := (hre_2 109 ).trans (hfs_7_109)
  have hfk_2_129 : z_2[129]? = some (.int v129) := (hre_2 129 ).trans (hfs_7_129)
  have hfk_2_130 : z_2[130]? = some (.int u1_0) := (hre_2 130 ).trans (hfs_7_130)
  have hfk_2_132 : z_2[132]? = some (.int (a1 - 8)) := (hre_2 132 ).trans (hfs_7_132)
  have hfk_2_133 : z_2[133]? = some (.int a2) := (hre_2 133 ).trans (hfs_7_133)
  have hfk_2_134 : z_2[134]? = some (.int v134) := (hre_2 134 ).trans (hfs_7_134)
  have hfk_2_135 : z_2[135]? = some (.int v135) := (hre_2 135 ).trans (hfs_7_135)
  have hrq_2 : ∀ j : Nat, j ≠ 129 → j ≠ 130 → j ≠ 132 → j ≠ 133 → j ≠ 134 → j ≠ 135 → z_2[j]? = zs[j]? := fun j g129 g130 g132 g133 g134 g135 => (hre_2 j ).trans (hrs_8 j g129 g130 g132 g133 g134 g135)
  obtain rfl := hwa_2
  refine va_put (D := (dC, dI)) (ci := 13) (v := .int u2_0) (ty := .int) (C := RX13) (T := TX13) (N := 155) hx hb hts uV_h6_X13 tyX13 tyX13_ok nmX13 hown hK hP hD hS 1 rfl rfl 129 (by decide) (hts (.fieldLink RX13 964 "ClassMillModel" "localMany" "I") mw_h6_130) (fun _ h9 => h9) rfl (by decide +kernel) rfl rfl (by rw [hln_2]; decide) dX13_at__55 ?_
  clear hP hD hS
  intro H locs hP hD hS
  obtain ⟨fs_10, efs_10⟩ : ∃ zf : List Value, zf = z_2.set 129 (.int u2_0) := ⟨_, rfl⟩
  rw [← efs_10] at hP hD
  have hlfs_10 : fs_10.length = 155 := by rw [efs_10, List.length_set]; exact hln_2
  have hfs_10_100 : fs_10[100]? = some (.ref qf100) := by rw [efs_10, List.getElem?_set_ne (by decide)]; exact hfk_2_100
  have hfs_10_109 : fs_10[109]? = some (.ref qf109) := by rw [efs_10, List.getElem?_set_ne (by decide)]; exact hfk_2_109
  have hfs_10_130 : fs_10[130]? = some (.int u1_0) := by rw [efs_10, List.getElem?_set_ne (by decide)]; exact hfk_2_130
  have hfs_10_132 : fs_10[132]? = some (.int (a1 - 8)) := by rw [efs_10, List.getElem?_set_ne (by decide)]; exact hfk_2_132
  have hfs_10_133 : fs_10[133]? = some (.int a2) := by rw [efs_10, List.getElem?_set_ne (by decide)]; exact hfk_2_133
  have hfs_10_134 : fs_10[134]? = some (.int v134) := by rw [efs_10, List.getElem?_set_ne (by decide)]; exact hfk_2_134
  have hfs_10_135 : fs_10[135]? = some (.int v135) := by rw [efs_10, List.getElem?_set_ne (by decide)]; exact hfk_2_135
  have hfs_10_129 : fs_10[129]? = some (.int u2_0) := by rw [efs_10, List.getElem?_set_self (by rw [hln_2]; decide)]
  replace hP : va_P (dC, dI) vwCl [(qf109, .inl (cf109, 96, .inl f109)), (h0, .inr (13, fs_10)), (qf100, .inl (cf100, 48000, .inl f100))] H := hP
  replace hD : va_D A [(qf109, .inl (cf109, 96, .inl f109)), (h0, .inr (13, fs_10)), (qf100, .inl (cf100, 48000, .inl f100))] := hD
  have hrs_11 : ∀ j : Nat, j ≠ 129 → j ≠ 130 → j ≠ 132 → j ≠ 133 → j ≠ 134 → j ≠ 135 → fs_10[j]? = zs[j]? := fun j g129 g130 g132 g133 g134 g135 => ((congrArg (fun z : List Value => z[j]?) efs_10).trans (List.getElem?_set_ne (Ne.symm g129))).trans (hrq_2 j g129 g130 g132 g133 g134 g135)
  refine lv_aload_n hx hb dX13_at__58 rfl (lv_at hl 1 rfl) ?_
  refine lv_aload_n hx hb dX13_at__59 rfl (lv_at hl 1 rfl) ?_
  refine lv_iload_n hx hb dX13_at__60 rfl (lv_at hl 0 rfl) ?_
  refine lv_iconst (v := 5) hx hb dX13_at__61 (by decide) ?_
  refine lv_iadd hx hb dX13_at__62 ?_
  obtain ⟨u3_0, hu_3, hsp⟩ := ox_bind hsp
  try dsimp only at hsp
  have hPc := hP.sub (ws' := [(h0, .inr (13, fs_10)), (qf100, .inl (cf100, 48000, .inl f100))]) [1, 2] rfl
  have hDc := hD.sub (ws' := [(h0, .inr (13, fs_10)), (qf100, .inl (cf100, 48000, .inl f100))]) [1, 2] (by decide) rfl
  have hKc := hK.sub (tys' := [(cf100, .int)]) [1] rfl
  have hFc := va_free (wc := [(h0, .inr (13, fs_10)), (qf100, .inl (cf100, 48000, .inl f100))]) hD hS hA [1, 2] rfl
  refine va_calli (va_runV (As := [.int ((f109 (((12 * (a1 - 8)) + a2) : Int32).toNatClampNeg) + 5)]) (rest := [.ref h0]) ⟨hx, hb, hml, hown, hts⟩ (tm_pairIn l dC dI H.size h0 fs_10 (((f109 (((12 * (a1 - 8)) + a2) : Int32).toNatClampNeg) + 5)) qf100 ((a1 - 8)) cf100 f100 nf u3_0 hlfs_10 hfs_10_100 hfs_10_132 hu_3) (cwV 1 hts gv_h6_24 rfl rfl rfl (by decide +kernel) ⟨Nat.le_of_ble_eq_true rfl, Nat.le_of_ble_eq_true rfl⟩) ⟨fun a U g mk q => by obtain ⟨q0, q1, qP, qK, qD⟩ := q; exact ⟨q0, q1, qP, va_K.moved (u := U) (U := U.calling g mk a) (Vm.Alike.refl U.vm) qK, qD⟩, va_recv hKc hPc (ci := 13) (q0 := 0) rfl rfl, fun U hU hW => ⟨rfl, by rw [hU], by rw [hU]; exact hPc, va_K.moved hW.alike hKc, hDc.weaken (fun _ _ _ _ => trivial)⟩⟩ rfl rfl hl.1 rfl (lv_room (Nat.le_of_ble_eq_true rfl)) dX13_at__63 ⟨Nat.le_of_ble_eq_true rfl, Nat.le_of_ble_eq_true rfl⟩) hS (fun q _ h => hFc q h) hFc ?_
  clear hS
  intro r_12 u t H1 locs ht hvm hw hB hz1 hk1 hS
  obtain ⟨z_3, rfl⟩ : ∃ z, z = u := ⟨_, rfl⟩
  obtain ⟨hP1, hK1, hD1⟩ := hB
  rw [ht] at hP1
  have hK1 := va_K.moved hvm.symm hK1
  try dsimp only at hw
  have hPD := va_join (wr := [(qf109, .inl (cf109, 96, .inl f109))]) (w1 := [(h0, .inr (13, z_3)), (qf100, .inl (cf100, 48000, .inl f100))]) hP hD [1, 2] [0] rfl rfl (by decide) (by decide) hk1 hFc hP1 hD1
  clear hP hD
  obtain ⟨hP, hD⟩ := hPD
  replace hK := (hK.sub (tys' := [(cf109, .int)]) [0] rfl).app hK1
  clear hPc hDc hKc hFc hP1 hK1 hD1 hz1 hk1 ht hvm
  generalize H1 = H at hP hS ⊢
  replace hP : va_P (dC, dI) vwCl [(qf109, .inl (cf109, 96, .inl f109)), (h0, .inr (13, z_3)), (qf100, .inl (cf100, 48000, .inl f100))] H := hP
  replace hD : va_D A [(qf109, .inl (cf109, 96, .inl f109)), (h0, .inr (13, z_3)), (qf100, .inl (cf100, 48000, .inl f100))] := hD
  replace hK : va_K (dC, dI) vwCl [(cf109, .int), (cf100, .int)] s := hK
  obtain ⟨hwa_3, hln_3, hre_3⟩ := hw
  have hfk_3_100 : z_3[100]? = some (.ref qf100) := (hre_3 100 ).trans (hfs_10_100)
  have hfk_3_109 : z_3[109]? = some (.ref qf109) := (hre_3 109 ).trans (hfs_10_109)
  have hfk_3_129 : z_3[129]? = some (.int u2_0) := (hre_3 129 ).trans (hfs_10_129)
  have hfk_3_130 : z_3[130]? = some (.int u1_0) := (hre_3 130 ).trans (hfs_10_130)
  have hfk_3_132 : z_3[132]? = some (.int (a1 - 8)) := (hre_3 132 ).trans (hfs_10_132)
  have hfk_3_133 : z_3[133]? = some (.int a2) := (hre_3 133 ).trans (hfs_10_133)
  have hfk_3_134 : z_3[134]? = some (.int v134) := (hre_3 134 ).trans (hfs_10_134)
  have hfk_3_135 : z_3[135]? = some (.int v135) := (hre_3 135 ).trans (hfs_10_135)
  have hrq_3 : ∀ j : Nat, j ≠ 129 → j ≠ 130 → j ≠ 132 → j ≠ 133 → j ≠ 134 → j ≠ 135 → z_3[j]? = zs[j]? := fun j g129 g130 g132 g133 g134 g135 => (hre_3 j ).trans (hrs_11 j g129 g130 g132 g133 g134 g135)
  obtain rfl := hwa_3
  refine va_put (D := (dC, dI)) (ci := 13) (v := .int u3_0) (ty := .int) (C := RX13) (T := TX13) (N := 155) hx hb hts uV_h6_X13 tyX13 tyX13_ok nmX13 hown hK hP hD hS 1 rfl rfl 135 (by decide) (hts (.fieldLink RX13 970 "ClassMillModel" "codeSize" "I") mw_h6_131) (fun _ h9 => h9) rfl (by decide +kernel) rfl rfl (by rw [hln_3]; decide) dX13_at__66 ?_
  clear hP hD hS
  intro H locs hP hD hS
  obtain ⟨fs_13, efs_13⟩ : ∃ zf : List Value, zf = z_3.set 135 (.int u3_0) := ⟨_, rfl⟩
  rw [← efs_13] at hP hD
  have hlfs_13 : fs_13.length = 155 := by rw [efs_13, List.length_set]; exact hln_3
  have hfs_13_100 : fs_13[100]? = some (.ref qf100) := by rw [efs_13, List.getElem?_set_ne (by decide)]; exact hfk_3_100
  have hfs_13_109 : fs_13[109]? = some (.ref qf109) := by rw [efs_13, List.getElem?_set_ne (by decide)]; exact hfk_3_109
  have hfs_13_129 : fs_13[129]? = some (.int u2_0) := by rw [efs_13, List.getElem?_set_ne (by decide)]; exact hfk_3_129
  have hfs_13_130 : fs_13[130]? = some (.int u1_0) := by rw [efs_13, List.getElem?_set_ne (by decide)]; exact hfk_3_130
  have hfs_13_132 : fs_13[132]? = some (.int (a1 - 8)) := by rw [efs_13, List.getElem?_set_ne (by decide)]; exact hfk_3_132
  have hfs_13_133 : fs_13[133]? = some (.int a2) := by rw [efs_13, List.getElem?_set_ne (by decide)]; exact hfk_3_133
  have hfs_13_134 : fs_13[134]? = some (.int v134) := by rw [efs_13, List.getElem?_set_ne (by decide)]; exact hfk_3_134
  have hfs_13_135 : fs_13[135]? = some (.int u3_0) := by rw [efs_13, List.getElem?_set_self (by rw [hln_3]; decide)]
  replace hP : va_P (dC, dI) vwCl [(qf109, .inl (cf109, 96, .inl f109)), (h0, .inr (13, fs_13)), (qf100, .inl (cf100, 48000, .inl f100))] H := hP
  replace hD : va_D A [(qf109, .inl (cf109, 96, .inl f109)), (h0, .inr (13, fs_13)), (qf100, .inl (cf100, 48000, .inl f100))] := hD
  have hrs_14 : ∀ j : Nat, j ≠ 129 → j ≠ 130 → j ≠ 132 → j ≠ 133 → j ≠ 134 → j ≠ 135 → fs_13[j]? = zs[j]? := fun j g129 g130 g132 g133 g134 g135 => ((congrArg (fun z : List Value => z[j]?) efs_13).trans (List.getElem?_set_ne (Ne.symm g135))).trans (hrq_3 j g129 g130 g132 g133 g134 g135)
  refine lv_aload_n hx hb dX13_at__69 rfl (lv_at hl 1 rfl) ?_
  refine lv_iload_n hx hb dX13_at__70 rfl (lv_at hl 0 rfl) ?_
  refine lv_bipush (v := 7) hx hb dX13_at__71 (by decide) ?_
  refine lv_iadd hx hb dX13_at__73 ?_
  refine va_put (D := (dC, dI)) (ci := 13) (v := .int ((f109 (((12 * (a1 - 8)) + a2) : Int32).toNatClampNeg) + 7)) (ty := .int) (C := RX13) (T := TX13) (N := 155) hx hb hts uV_h6_X13 tyX13 tyX13_ok nmX13 hown hK hP hD hS 1 rfl rfl 134 (by decide) (hts (.fieldLink RX13 935 "ClassMillModel" "codeAt" "I") mw_h6_132) (fun _ h9 => h9) rfl (by decide +kernel) rfl rfl (by rw [hlfs_13]; decide) dX13_at__74 ?_
  clear hP hD hS
  intro H locs hP hD hS
  obtain ⟨fs_15, efs_15⟩ : ∃ zf : List Value, zf = fs_13.set 134 (.int ((f109 (((12 * (a1 - 8)) + a2) : Int32).toNatClampNeg) + 7)) := ⟨_, rfl⟩
  rw [← efs_15] at hP hD
  have hlfs_15 : fs_15.length = 155 := by rw [efs_15, List.length_set]; exact hlfs_13
  have hfs_15_100 : fs_15[100]? = some (.ref qf100) := by rw [efs_15, List.getElem?_set_ne (by decide)]; exact hfs_13_100
  have hfs_15_109 : fs_15[109]? = some (.ref qf109) := by rw [efs_15, List.getElem?_set_ne (by decide)]; exact hfs_13_109
  have hfs_15_129 : fs_15[129]? = some (.int u2_0) := by rw [efs_15, List.getElem?_set_ne (by decide)]; exact hfs_13_129
  have hfs_15_130 : fs_15[130]? = some (.int u1_0) := by rw [efs_15, List.getElem?_set_ne (by decide)]; exact hfs_13_130
  have hfs_15_132 : fs_15[132]? = some (.int (a1 - 8)) := by rw [efs_15, List.getElem?_set_ne (by decide)]; exact hfs_13_132
  have hfs_15_133 : fs_15[133]? = some (.int a2) := by rw [efs_15, List.getElem?_set_ne (by decide)]; exact hfs_13_133
  have hfs_15_135 : fs_15[135]? = some (.int u3_0) := by rw [efs_15, List.getElem?_set_ne (by decide)]; exact hfs_13_135
  have hfs_15_134 : fs_15[134]? = some (.int ((f109 (((12 * (a1 - 8)) + a2) : Int32).toNatClampNeg) + 7)) := by rw [efs_15, List.getElem?_set_self (by rw [hlfs_13]; decide)]
  replace hP : va_P (dC, dI) vwCl [(qf109, .inl (cf109, 96, .inl f109)), (h0, .inr (13, fs_15)), (qf100, .inl (cf100, 48000, .inl f100))] H := hP
  replace hD : va_D A [(qf109, .inl (cf109, 96, .inl f109)), (h0, .inr (13, fs_15)), (qf100, .inl (cf100, 48000, .inl f100))] := hD
  have hrs_16 : ∀ j : Nat, j ≠ 129 → j ≠ 130 → j ≠ 132 → j ≠ 133 → j ≠ 134 → j ≠ 135 → fs_15[j]? = zs[j]? := fun j g129 g130 g132 g133 g134 g135 => ((congrArg (fun z : List Value => z[j]?) efs_15).trans (List.getElem?_set_ne (Ne.symm g134))).trans (hrs_14 j g129 g130 g132 g133 g134 g135)
  have hr0 := Option.some.inj hsp
  clear hsp
  obtain ⟨hq0, hr1⟩ := Prod.mk.inj hr0
  clear hr0
  obtain ⟨hq1, hr2⟩ := Prod.mk.inj hr1
  clear hr1
  obtain ⟨hq2, hr3⟩ := Prod.mk.inj hr2
  clear hr2
  obtain ⟨hq3, hr4⟩ := Prod.mk.inj hr3
  clear hr3
  obtain ⟨hq4, hr5⟩ := Prod.mk.inj hr4
  clear hr4
  subst hq0
  subst hq1
  subst hq2
  subst hq3
  subst hq4
  subst hr5
  have hP9 := hP.sub (ws' := [(h0, .inr (13, fs_15)), (qf109, .inl (cf109, 96, .inl f109)), (qf100, .inl (cf100, 48000, .inl f100))]) [1, 0, 2] rfl
  have hD9 := hD.sub (ws' := [(h0, .inr (13, fs_15)), (qf109, .inl (cf109, 96, .inl f109)), (qf100, .inl (cf100, 48000, .inl f100))]) [1, 0, 2] (by decide) rfl
  have hK9 := hK.sub (tys' := [(cf109, .int), (cf100, .int)]) [0, 1] rfl
  exact W.vret hx hb hr (fun t ht hW => ⟨⟨(fs_15), rfl, ⟨trivial, hlfs_15, hrs_16, hfs_15_129, hfs_15_130, hfs_15_132, hfs_15_133, hfs_15_134, hfs_15_135⟩, by rw [ht]; exact hP9, va_K.moved hW.alike hK9, hD9⟩, hS.F ht⟩) hS.2.2 dX13_at__77
def lp_tn_pullInts_2 (nf n : Nat) (a1 : Int32) (v131 : Int32) (f128 : Nat → Int32)  (l1_2 : Int32) (l2_2 : Int32) (x131_2 : Int32) : Option (Int32 × Int32) := match n with
  | 0 => none
  | n + 1 => (if l1_2 ≤ l2_2 then (some (1, x131_2)) else ((sp_tm_pull nf x131_2 f128).bind (fun p1 => (if p1.1 = 1 then (lp_tn_pullInts_2 nf n a1 v131 f128 l1_2 (l2_2 + 1) p1.2) else (some (0, p1.2))))))
def sp_tn_pullInts (nf : Nat) (a1 : Int32) (v131 : Int32) (f128 : Nat → Int32) : Option (Int32 × Int32) := (lp_tn_pullInts_2 nf nf a1 v131 f128 a1 0 v131)
set_option maxHeartbeats 4000000 in
set_option maxRecDepth 100000 in
/-- ClassMillModel.pullInts -/
theorem tn_pullInts (l : Launch) (dC : Nat → ClassId) (dI : Nat → Nat → Nat) (sz : Nat) (h0 : Nat) (zs : (List Value)) (a1 : Int32) (qf128 : Nat) (v131 : Int32) (cf128 : ClassId) (f128 : (Nat → Int32)) (nf : Nat) (r0 : Int32) (w131 : Int32) (hlen : zs.length = 155) (hf128 : zs[128]? = some (.ref qf128)) (hf131 : zs[131]? = some (.int v131)) (hsp : sp_tn_pullInts nf a1 v131 f128 = some (r0, w131)) : Met l yX13_pullInts (.code yX13_pullInts cX13_pullInts 3 (some .boolean) :: VS_h6) ({ frames := 1, cells := 0, slots := 0, locals := 20 }) (va_Pc [.ref h0, .int a1] (fun U => U.heap.size = sz ∧ va_P (dC, dI) vwCl [(h0, .inr (13, zs)), (qf128, .inl (cf128, 31, .inl f128))] U.heap ∧ va_K (dC, dI) vwCl [(cf128, .int)] U ∧ va_D (fun _ => True) [(h0, .inr (13, zs)), (qf128, .inl (cf128, 31, .inl f128))])) (va_Qi (fun (r : Int32) (u : (List Value)) => match u with | (zo1) => (r0 = r ∧ (r0 = 0 ∨ r0 = 1)) ∧ zo1.length = 155 ∧ (∀ j : Nat, j ≠ 131 → zo1[j]? = zs[j]?) ∧ zo1[131]? = some (.int w131)) (fun (u : (List Value)) (t : State) => match u with | (zo1) => va_P (dC, dI) vwCl [(h0, .inr (13, zo1)), (qf128, .inl (cf128, 31, .inl f128))] t.heap ∧ va_K (dC, dI) vwCl [(cf128, .int)] t ∧ va_D (va_A [(h0, .inr (13, zs)), (qf128, .inl (cf128, 31, .inl f128))] sz) [(h0, .inr (13, zo1)), (qf128, .inl (cf128, 31, .inl f128))]) (va_A [(h0, .inr (13, zs)), (qf128, .inl (cf128, 31, .inl f128))] sz)) 0 0 (va_A [(h0, .inr (13, zs)), (qf128, .inl (cf128, 31, .inl f128))] sz) := by
  refine Met.ofW (cc := cX13_pullInts) (maxL := 3) (ret := (some .boolean)) (by decide) rfl ?_
  intro p e s m args below meth c s₁ B hml hv
  obtain ⟨rfl, hsz, hP, hK, hD0⟩ := hv
  have hx := B.exec
  have hb := B.bytes
  have hr := B.returns
  have hts := atoms_spec (ws := (.code yX13_pullInts cX13_pullInts 3 (some .boolean) :: VS_h6)) B.pre
  replace hts := fun w (h : w ∈ VS_h6) => hts w (List.mem_cons_of_mem _ h)
  have hown : s.vm.findClass RX13 = some m.cls := findClass_of_methodNamed B.named
  have hlocks := B.notSynchronized
  subst hsz
  have hD := hD0.self (sz := s.heap.size)
  generalize hAe : va_A [(h0, .inr (13, zs)), (qf128, .inl (cf128, 31, .inl f128))] s.heap.size = A at hD  ⊢
  have hA : ∀ q : Nat, s.heap.size ≤ q → A q := fun q h => by rw [← hAe]; exact Or.inr h
  have hP : va_P (dC, dI) vwCl [(h0, .inr (13, zs)), (qf128, .inl (cf128, 31, .inl f128))] s.heap := hP
  have hl := lv_entry ([.ref h0, .int a1]) (n := 3) (Nat.le_of_ble_eq_true rfl)
  rw [lg_entry_eq]
  generalize (lg_sl ([.ref h0, .int a1]) ++ List.replicate (3 - (lg_sl ([.ref h0, .int a1])).length) Slot.unset).toArray = ls at hl ⊢
  have hl : lv_has ls 3 [(0, .ref h0), (1, .int a1)] := hl
  obtain ⟨H, hH⟩ : ∃ H : Heap, s.heap = H := ⟨_, rfl⟩
  rw [hH] at hP ⊢
  have hS : va_S A s.heap H [] := by rw [← hH]; exact va_S.rf
  obtain ⟨locs, hlo⟩ : ∃ locs : List Loc, locs = [] := ⟨_, rfl⟩
  rw [← hlo] at hS ⊢
  have hrs0 : ∀ j : Nat, j ≠ 131 → zs[j]? = zs[j]? := fun _ _  => rfl
  unfold sp_tn_pullInts at hsp
  refine lv_iconst (v := 0) hx hb dX13_pullInts_0 (by decide) ?_
  refine lv_istore_n (lv' := [(2, .int 0), (0, .ref h0), (1, .int a1)]) hx hb dX13_pullInts_1 rfl hl (by decide) rfl (fun ls hl => ?_)
  replace hP := hP.sub (ws' := [(h0, .inr (13, zs)), (qf128, .inl (cf128, 31, .inl f128))]) [0, 1] rfl
  replace hD := hD.sub (ws' := [(h0, .inr (13, zs)), (qf128, .inl (cf128, 31, .inl f128))]) [0, 1] (by decide) rfl
  replace hK := hK.sub (tys' := [(cf128, .int)]) [0] rfl
  obtain ⟨n_2, hn_2⟩ : ∃ z : Nat, z = nf := ⟨_, rfl⟩
  obtain ⟨z2, ez2⟩ : ∃ z : List Value, z = zs := ⟨_, rfl⟩
  obtain ⟨l1_2, el1_2⟩ : ∃ z : Int32, z = a1 := ⟨_, rfl⟩
  obtain ⟨l2_2, el2_2⟩ : ∃ z : Int32, z = 0 := ⟨_, rfl⟩
  obtain ⟨x131_2, ex131_2⟩ : ∃ z : Int32, z = v131 := ⟨_, rfl⟩
  replace hsp : lp_tn_pullInts_2 nf n_2 a1 v131 f128 l1_2 l2_2 x131_2 = some (r0, w131) := by rw [hn_2, el1_2, el2_2, ex131_2]; exact hsp
  replace hl : lv_has ls 3 [(2, .int l2_2), (0, .ref h0), (1, .int l1_2)] := by rw [el1_2, el2_2]; exact hl
  have hfh_2_128 : z2[128]? = some (.ref qf128) := by rw [ez2]; exact hf128
  have hfh_2_131 : z2[131]? = some (.int x131_2) := by rw [ez2, ex131_2]; exact hf131
  have hlh_2 : z2.length = 155 := by rw [ez2]; exact hlen
  have hrh_2 : ∀ j : Nat, j ≠ 131 → z2[j]? = zs[j]? := by rw [ez2]; exact hrs0
  replace hP : va_P (dC, dI) vwCl [(h0, .inr (13, z2)), (qf128, .inl (cf128, 31, .inl f128))] H := by rw [ez2]; exact hP
  replace hD : va_D A [(h0, .inr (13, z2)), (qf128, .inl (cf128, 31, .inl f128))] := by rw [ez2]; exact hD
  clear hn_2 ez2 el1_2 el2_2 ex131_2
  try clear hlo
  try clear hH
  revert hsp
  revert hP
  revert hD
  revert hS
  revert hl
  revert hrh_2
  revert hlh_2
  revert hfh_2_131
  revert hfh_2_128
  revert x131_2
  revert l2_2
  revert l1_2
  revert z2
  revert ls
  revert locs
  revert H
  induction n_2 with
  | zero => intro H locs ls z2 l1_2 l2_2 x131_2 hfh_2_128 hfh_2_131 hlh_2 hrh_2 hl hS hD hP hsp; unfold lp_tn_pullInts_2 at hsp; cases hsp
  | succ n_2 ih_2 =>
    intro H locs ls z2 l1_2 l2_2 x131_2 hfh_2_128 hfh_2_131 hlh_2 hrh_2 hl hS hD hP hsp
    unfold lp_tn_pullInts_2 at hsp
    try dsimp only at hsp
    refine lv_iload_n hx hb dX13_pullInts_2 rfl (lv_at hl 0 rfl) ?_
    refine lv_iload_n hx hb dX13_pullInts_3 rfl (lv_at hl 2 rfl) ?_
    refine lv_icmp_ge (tgt := 23) hx hb dX13_pullInts_4 (by decide) (fun c_1 => ?_) (fun c_1 => ?_)
    · rw [if_pos c_1] at hsp
      refine lv_iconst (v := 1) hx hb dX13_pullInts_23 (by decide) ?_
      have hr0 := Option.some.inj hsp
      clear hsp
      obtain ⟨hq0, hr1⟩ := Prod.mk.inj hr0
      clear hr0
      subst hq0
      subst hr1
      have hP9 := hP.sub (ws' := [(h0, .inr (13, z2)), (qf128, .inl (cf128, 31, .inl f128))]) [0, 1] rfl
      have hD9 := hD.sub (ws' := [(h0, .inr (13, z2)), (qf128, .inl (cf128, 31, .inl f128))]) [0, 1] (by decide) rfl
      have hK9 := hK.sub (tys' := [(cf128, .int)]) [0] rfl
      exact W.zret hx hb hr (by decide) (fun t ht hW => ⟨⟨(1), (z2), rfl, ⟨⟨rfl, Or.inr rfl⟩, hlh_2, hrh_2, hfh_2_131⟩, by rw [ht]; exact hP9, va_K.moved hW.alike hK9, hD9⟩, hS.F ht⟩) hS.2.2 dX13_pullInts_24
    · rw [if_neg c_1] at hsp
      refine lv_aload_n hx hb dX13_pullInts_7 rfl (lv_at hl 1 rfl) ?_
      obtain ⟨⟨u1_0, u1_1⟩, hu_1, hsp⟩ := ox_bind hsp
      try dsimp only at hsp
      have hPc := hP.sub (ws' := [(h0, .inr (13, z2)), (qf128, .inl (cf128, 31, .inl f128))]) [0, 1] rfl
      have hDc := hD.sub (ws' := [(h0, .inr (13, z2)), (qf128, .inl (cf128, 31, .inl f128))]) [0, 1] (by decide) rfl
      have hKc := hK.sub (tys' := [(cf128, .int)]) [0] rfl
      have hFc := va_free (wc := [(h0, .inr (13, z2)), (qf128, .inl (cf128, 31, .inl f128))]) hD hS hA [0, 1] rfl
      refine va_calli (va_runV (As := []) (rest := []) ⟨hx, hb, hml, hown, hts⟩ (tm_pull l dC dI H.size h0 z2 qf128 x131_2 cf128 f128 nf u1_0 u1_1 hlh_2 hfh_2_128 hfh_2_131 hu_1) (cwV 0 hts gv_h6_26 rfl rfl rfl (by decide +kernel) ⟨Nat.le_of_ble_eq_true rfl, Nat.le_of_ble_eq_true rfl⟩) ⟨fun a U g mk q => by obtain ⟨q0, q1, qP, qK, qD⟩ := q; exact ⟨q0, q1, qP, va_K.moved (u := U) (U := U.calling g mk a) (Vm.Alike.refl U.vm) qK, qD⟩, va_recv hKc hPc (ci := 13) (q0 := 0) rfl rfl, fun U hU hW => ⟨rfl, by rw [hU], by rw [hU]; exact hPc, va_K.moved hW.alike hKc, hDc.weaken (fun _ _ _ _ => trivial)⟩⟩ rfl rfl hl.1 rfl (lv_room (Nat.le_of_ble_eq_true rfl)) dX13_pullInts_8 ⟨Nat.le_of_ble_eq_true rfl, Nat.le_of_ble_eq_true rfl⟩) hS (fun q _ h => hFc q h) hFc ?_
      clear hS
      intro r_2 u t H1 locs ht hvm hw hB hz1 hk1 hS
      obtain ⟨z_1, rfl⟩ : ∃ z, z = u := ⟨_, rfl⟩
      obtain ⟨hP1, hK1, hD1⟩ := hB
      rw [ht] at hP1
      have hK1 := va_K.moved hvm.symm hK1
      try dsimp only at hw
      have hPD := va_join (wr := []) (w1 := [(h0, .inr (13, z_1)), (qf128, .inl (cf128, 31, .inl f128))]) hP hD [0, 1] [] rfl rfl (by decide) (by decide) hk1 hFc hP1 hD1
      clear hP hD
      obtain ⟨hP, hD⟩ := hPD
      replace hK := (hK.sub (tys' := []) [] rfl).app hK1
      clear hPc hDc hKc hFc hP1 hK1 hD1 hz1 hk1 ht hvm
      generalize H1 = H at hP hS ⊢
      replace hP : va_P (dC, dI) vwCl [(h0, .inr (13, z_1)), (qf128, .inl (cf128, 31, .inl f128))] H := hP
      replace hD : va_D A [(h0, .inr (13, z_1)), (qf128, .inl (cf128, 31, .inl f128))] := hD
      replace hK : va_K (dC, dI) vwCl [(cf128, .int)] s := hK
      obtain ⟨hwa_1, hln_1, hre_1, hch_1_131⟩ := hw
      have hfk_1_128 : z_1[128]? = some (.ref qf128) := (hre_1 128 (by decide)).trans (hfh_2_128)
      have hrq_1 : ∀ j : Nat, j ≠ 131 → z_1[j]? = zs[j]? := fun j g131 => (hre_1 j g131).trans (hrh_2 j g131)
      obtain rfl := hwa_1
      refine lv_iconst (v := 1) hx hb dX13_pullInts_11 (by decide) ?_
      refine lv_icmp_eq (tgt := 17) hx hb dX13_pullInts_12 (by decide) (fun c_3 => ?_) (fun c_3 => ?_)
      · rw [if_pos c_3] at hsp
        refine lv_iinc (v := (l2_2 + 1)) (lv' := [(2, .int (l2_2 + 1)), (0, .ref h0), (1, .int l1_2)]) hx hb dX13_pullInts_17 hl (k := 0) rfl rfl (by decide) rfl (fun ls hl => ?_)
        refine lv_goto (tgt := 2) hx hb dX13_pullInts_20 (by decide) ?_
        exact ih_2 H locs ls z_1 l1_2 (l2_2 + 1) u1_1 (hfk_1_128) (hch_1_131) hln_1 hrq_1 (lv_sub hl [0, 1, 2] rfl) hS (hD.sub (ws' := [(h0, .inr (13, z_1)), (qf128, .inl (cf128, 31, .inl f128))]) [0, 1] (by decide) rfl) (hP.sub (ws' := [(h0, .inr (13, z_1)), (qf128, .inl (cf128, 31, .inl f128))]) [0, 1] rfl) hsp
      · rw [if_neg c_3] at hsp
        refine lv_iconst (v := 0) hx hb dX13_pullInts_15 (by decide) ?_
        have hr0 := Option.some.inj hsp
        clear hsp
        obtain ⟨hq0, hr1⟩ := Prod.mk.inj hr0
        clear hr0
        subst hq0
        subst hr1
        have hP9 := hP.sub (ws' := [(h0, .inr (13, z_1)), (qf128, .inl (cf128, 31, .inl f128))]) [0, 1] rfl
        have hD9 := hD.sub (ws' := [(h0, .inr (13, z_1)), (qf128, .inl (cf128, 31, .inl f128))]) [0, 1] (by decide) rfl
        have hK9 := hK.sub (tys' := [(cf128, .int)]) [0] rfl
        exact W.zret hx hb hr (by decide) (fun t ht hW => ⟨⟨(0), (z_1), rfl, ⟨⟨rfl, Or.inl rfl⟩, hln_1, hrq_1, hch_1_131⟩, by rw [ht]; exact hP9, va_K.moved hW.alike hK9, hD9⟩, hS.F ht⟩) hS.2.2 dX13_pullInts_16
def lp_tn_enter_42 (nf n : Nat) (a1 : Int32) (a2 : Int32) (v149 : Int32) (f150 : Nat → Int32) (f151 : Nat → Int32) (f152 : Nat → Int32) (f153 : Nat → Int32) (f154 : Nat → Int32)  (l1_42 : Int32) (l2_42 : Int32) (l3_42 : Int32) (g150_42 : Nat → Int32) (g151_42 : Nat → Int32) (g152_42 : Nat → Int32) (g153_42 : Nat → Int32) (g154_42 : Nat → Int32) (x149_42 : Int32) : Option ((Nat → Int32) × (Nat → Int32) × (Nat → Int32) × (Nat → Int32) × (Nat → Int32) × Int32) := match n with
  | 0 => none
  | n + 1 => (if 60 ≤ l3_42 then (some (g150_42, g151_42, g152_42, g153_42, g154_42, (x149_42 + 1))) else (if ((60 * x149_42) + l3_42) < 0 then none else if 3600 ≤ (((60 * x149_42) + l3_42) : Int32).toNatClampNeg then none else (lp_tn_enter_42 nf n a1 a2 v149 f150 f151 f152 f153 f154 l1_42 l2_42 (l3_42 + 1) g150_42 g151_42 g152_42 g153_42 (upd g154_42 (((60 * x149_42) + l3_42) : Int32).toNatClampNeg 0) x149_42)))
def sp_tn_enter (nf : Nat) (a1 : Int32) (a2 : Int32) (v149 : Int32) (f150 : Nat → Int32) (f151 : Nat → Int32) (f152 : Nat → Int32) (f153 : Nat → Int32) (f154 : Nat → Int32) : Option ((Nat → Int32) × (Nat → Int32) × (Nat → Int32) × (Nat → Int32) × (Nat → Int32) × Int32) := (if v149 < 0 then none else if 60 ≤ (v149 : Int32).toNatClampNeg then none else (if v149 < 0 then none else if 60 ≤ (v149 : Int32).toNatClampNeg then none else (if v149 < 0 then none else if 60 ≤ (v149 : Int32).toNatClampNeg then none else (if v149 < 0 then none else if 60 ≤ (v149 : Int32).toNatClampNeg then none else (lp_tn_enter_42 nf nf a1 a2 v149 f150 f151 f152 f153 f154 a1 a2 0 (upd f150 (v149 : Int32).toNatClampNeg a1) (upd f151 (v149 : Int32).toNatClampNeg a2) (upd f152 (v149 : Int32).toNatClampNeg 0) (upd f153 (v149 : Int32).toNatClampNeg 0) f154 v149)))))
set_option maxHeartbeats 4000000 in
set_option maxRecDepth 100000 in
/-- ClassMillModel.enter -/
theorem tn_enter (l : Launch) (dC : Nat → ClassId) (dI : Nat → Nat → Nat) (sz : Nat) (h0 : Nat) (zs : (List Value)) (a1 : Int32) (a2 : Int32) (v149 : Int32) (qf150 : Nat) (qf151 : Nat) (qf152 : Nat) (qf153 : Nat) (qf154 : Nat) (cf150 : ClassId) (f150 : (Nat → Int32)) (cf151 : ClassId) (f151 : (Nat → Int32)) (cf152 : ClassId) (f152 : (Nat → Int32)) (cf153 : ClassId) (f153 : (Nat → Int32)) (cf154 : ClassId) (f154 : (Nat → Int32)) (nf : Nat) (o150 : (Nat → Int32)) (o151 : (Nat → Int32)) (o152 : (Nat → Int32)) (o153 : (Nat → Int32)) (o154 : (Nat → Int32)) (w149 : Int32) (hlen : zs.length = 155) (hf149 : zs[149]? = some (.int v149)) (hf150 : zs[150]? = some (.ref qf150)) (hf151 : zs[151]? = some (.ref qf151)) (hf152 : zs[152]? = some (.ref qf152)) (hf153 : zs[153]? = some (.ref qf153)) (hf154 : zs[154]? = some (.ref qf154)) (hsp : sp_tn_enter nf a1 a2 v149 f150 f151 f152 f153 f154 = some (o150, o151, o152, o153, o154, w149)) : Met l yX13_enter (.code yX13_enter cX13_enter 4 none :: VS_h6) ({ frames := 0, cells := 0, slots := 0, locals := 0 }) (va_Pc [.ref h0, .int a1, .int a2] (fun U => U.heap.size = sz ∧ va_P (dC, dI) vwCl [(h0, .inr (13, zs)), (qf150, .inl (cf150, 60, .inl f150)), (qf151, .inl (cf151, 60, .inl f151)), (qf152, .inl (cf152, 60, .inl f152)), (qf153, .inl (cf153, 60, .inl f153)), (qf154, .inl (cf154, 3600, .inl f154))] U.heap ∧ va_K (dC, dI) vwCl [(cf150, .int), (cf151, .int), (cf152, .int), (cf153, .int), (cf154, .int)] U ∧ va_D (fun _ => True) [(h0, .inr (13, zs)), (qf150, .inl (cf150, 60, .inl f150)), (qf151, .inl (cf151, 60, .inl f151)), (qf152, .inl (cf152, 60, .inl f152)), (qf153, .inl (cf153, 60, .inl f153)), (qf154, .inl (cf154, 3600, .inl f154))])) (va_Qv (fun (u : (List Value)) => match u with | (zo1) => True ∧ zo1.length = 155 ∧ (∀ j : Nat, j ≠ 149 → zo1[j]? = zs[j]?) ∧ zo1[149]? = some (.int w149)) (fun (u : (List Value)) (t : State) => match u with | (zo1) => va_P (dC, dI) vwCl [(h0, .inr (13, zo1)), (qf150, .inl (cf150, 60, .inl o150)), (qf151, .inl (cf151, 60, .inl o151)), (qf152, .inl (cf152, 60, .inl o152)), (qf153, .inl (cf153, 60, .inl o153)), (qf154, .inl (cf154, 3600, .inl o154))] t.heap ∧ va_K (dC, dI) vwCl [(cf150, .int), (cf151, .int), (cf152, .int), (cf153, .int), (cf154, .int)] t ∧ va_D (va_A [(h0, .inr (13, zs)), (qf150, .inl (cf150, 60, .inl f150)), (qf151, .inl (cf151, 60, .inl f151)), (qf152, .inl (cf152, 60, .inl f152)), (qf153, .inl (cf153, 60, .inl f153)), (qf154, .inl (cf154, 3600, .inl f154))] sz) [(h0, .inr (13, zo1)), (qf150, .inl (cf150, 60, .inl o150)), (qf151, .inl (cf151, 60, .inl o151)), (qf152, .inl (cf152, 60, .inl o152)), (qf153, .inl (cf153, 60, .inl o153)), (qf154, .inl (cf154, 3600, .inl o154))]) (va_A [(h0, .inr (13, zs)), (qf150, .inl (cf150, 60, .inl f150)), (qf151, .inl (cf151, 60, .inl f151)), (qf152, .inl (cf152, 60, .inl f152)), (qf153, .inl (cf153, 60, .inl f153)), (qf154, .inl (cf154, 3600, .inl f154))] sz)) 0 0 (va_A [(h0, .inr (13, zs)), (qf150, .inl (cf150, 60, .inl f150)), (qf151, .inl (cf151, 60, .inl f151)), (qf152, .inl (cf152, 60, .inl f152)), (qf153, .inl (cf153, 60, .inl f153)), (qf154, .inl (cf154, 3600, .inl f154))] sz) := by
  refine Met.ofW (cc := cX13_enter) (maxL := 4) (ret := none) (by decide) rfl ?_
  intro p e s m args below meth c s₁ B hml hv
  obtain ⟨rfl, hsz, hP, hK, hD0⟩ := hv
  have hx := B.exec
  have hb := B.bytes
  have hr := B.returns
  have hts := atoms_spec (ws := (.code yX13_enter cX13_enter 4 none :: VS_h6)) B.pre
  replace hts := fun w (h : w ∈ VS_h6) => hts w (List.mem_cons_of_mem _ h)
  have hown : s.vm.findClass RX13 = some m.cls := findClass_of_methodNamed B.named
  have hlocks := B.notSynchronized
  subst hsz
  have hD := hD0.self (sz := s.heap.size)
  generalize hAe : va_A [(h0, .inr (13, zs)), (qf150, .inl (cf150, 60, .inl f150)), (qf151, .inl (cf151, 60, .inl f151)), (qf152, .inl (cf152, 60, .inl f152)), (qf153, .inl (cf153, 60, .inl f153)), (qf154, .inl (cf154, 3600, .inl f154))] s.heap.size = A at hD  ⊢
  have hA : ∀ q : Nat, s.heap.size ≤ q → A q := fun q h => by rw [← hAe]; exact Or.inr h
  have hP : va_P (dC, dI) vwCl [(h0, .inr (13, zs)), (qf150, .inl (cf150, 60, .inl f150)), (qf151, .inl (cf151, 60, .inl f151)), (qf152, .inl (cf152, 60, .inl f152)), (qf153, .inl (cf153, 60, .inl f153)), (qf154, .inl (cf154, 3600, .inl f154))] s.heap := hP
  have hl := lv_entry ([.ref h0, .int a1, .int a2]) (n := 4) (Nat.le_of_ble_eq_true rfl)
  rw [lg_entry_eq]
  generalize (lg_sl ([.ref h0, .int a1, .int a2]) ++ List.replicate (4 - (lg_sl ([.ref h0, .int a1, .int a2])).length) Slot.unset).toArray = ls at hl ⊢
  have hl : lv_has ls 4 [(0, .ref h0), (1, .int a1), (2, .int a2)] := hl
  obtain ⟨H, hH⟩ : ∃ H : Heap, s.heap = H := ⟨_, rfl⟩
  rw [hH] at hP ⊢
  have hS : va_S A s.heap H [] := by rw [← hH]; exact va_S.rf
  obtain ⟨locs, hlo⟩ : ∃ locs : List Loc, locs = [] := ⟨_, rfl⟩
  rw [← hlo] at hS ⊢
  have hrs0 : ∀ j : Nat, j ≠ 149 → zs[j]? = zs[j]? := fun _ _  => rfl
  unfold sp_tn_enter at hsp
  refine lv_aload_n hx hb dX13_enter_0 rfl (lv_at hl 0 rfl) ?_
  refine va_get (D := (dC, dI)) (ci := 13) (v := .ref qf150) (C := RX13) (T := TX13) (N := 155) hx hb hts uV_h6_X13 hown hK hP 0 rfl rfl 150 (by decide) (hts (.fieldLink RX13 294 "ClassMillModel" "runClass" "[I") mw_h6_137) (fun _ h9 => h9) hf150 dX13_enter_1 ?_
  refine lv_aload_n hx hb dX13_enter_4 rfl (lv_at hl 0 rfl) ?_
  refine va_get (D := (dC, dI)) (ci := 13) (v := .int v149) (C := RX13) (T := TX13) (N := 155) hx hb hts uV_h6_X13 hown hK hP 0 rfl rfl 149 (by decide) (hts (.fieldLink RX13 1058 "ClassMillModel" "depth" "I") mw_h6_138) (fun _ h9 => h9) hf149 dX13_enter_5 ?_
  refine lv_iload_n hx hb dX13_enter_8 rfl (lv_at hl 1 rfl) ?_
  obtain ⟨hi_1, hsp⟩ := ox_in hsp
  refine va_iast hx hb hK hP hD hS 1 0 rfl rfl (i := v149) (x := a1) hi_1 dX13_enter_9 ?_
  clear hP hD hS
  intro H locs hP hD hS
  replace hP : va_P (dC, dI) vwCl [(h0, .inr (13, zs)), (qf150, .inl (cf150, 60, .inl (upd f150 (v149 : Int32).toNatClampNeg a1))), (qf151, .inl (cf151, 60, .inl f151)), (qf152, .inl (cf152, 60, .inl f152)), (qf153, .inl (cf153, 60, .inl f153)), (qf154, .inl (cf154, 3600, .inl f154))] H := hP
  replace hD : va_D A [(h0, .inr (13, zs)), (qf150, .inl (cf150, 60, .inl (upd f150 (v149 : Int32).toNatClampNeg a1))), (qf151, .inl (cf151, 60, .inl f151)), (qf152, .inl (cf152, 60, .inl f152)), (qf153, .inl (cf153, 60, .inl f153)), (qf154, .inl (cf154, 3600, .inl f154))] := hD
  refine lv_aload_n hx hb dX13_enter_10 rfl (lv_at hl 0 rfl) ?_
  refine va_get (D := (dC, dI)) (ci := 13) (v := .ref qf151) (C := RX13) (T := TX13) (N := 155) hx hb hts uV_h6_X13 hown hK hP 0 rfl rfl 151 (by decide) (hts (.fieldLink RX13 297 "ClassMillModel" "runMethod" "[I") mw_h6_139) (fun _ h9 => h9) hf151 dX13_enter_11 ?_
  refine lv_aload_n hx hb dX13_enter_14 rfl (lv_at hl 0 rfl) ?_
  refine va_get (D := (dC, dI)) (ci := 13) (v := .int v149) (C := RX13) (T := TX13) (N := 155) hx hb hts uV_h6_X13 hown hK hP 0 rfl rfl 149 (by decide) (hts (.fieldLink RX13 1058 "ClassMillModel" "depth" "I") mw_h6_138) (fun _ h9 => h9) hf149 dX13_enter_15 ?_
  refine lv_iload_n hx hb dX13_enter_18 rfl (lv_at hl 2 rfl) ?_
  obtain ⟨hi_2, hsp⟩ := ox_in hsp
  refine va_iast hx hb hK hP hD hS 2 1 rfl rfl (i := v149) (x := a2) hi_2 dX13_enter_19 ?_
  clear hP hD hS
  intro H locs hP hD hS
  replace hP : va_P (dC, dI) vwCl [(h0, .inr (13, zs)), (qf150, .inl (cf150, 60, .inl (upd f150 (v149 : Int32).toNatClampNeg a1))), (qf151, .inl (cf151, 60, .inl (upd f151 (v149 : Int32).toNatClampNeg a2))), (qf152, .inl (cf152, 60, .inl f152)), (qf153, .inl (cf153, 60, .inl f153)), (qf154, .inl (cf154, 3600, .inl f154))] H := hP
  replace hD : va_D A [(h0, .inr (13, zs)), (qf150, .inl (cf150, 60, .inl (upd f150 (v149 : Int32).toNatClampNeg a1))), (qf151, .inl (cf151, 60, .inl (upd f151 (v149 : Int32).toNatClampNeg a2))), (qf152, .inl (cf152, 60, .inl f152)), (qf153, .inl (cf153, 60, .inl f153)), (qf154, .inl (cf154, 3600, .inl f154))] := hD
  refine lv_aload_n hx hb dX13_enter_20 rfl (lv_at hl 0 rfl) ?_
  refine va_get (D := (dC, dI)) (ci := 13) (v := .ref qf152) (C := RX13) (T := TX13) (N := 155) hx hb hts uV_h6_X13 hown hK hP 0 rfl rfl 152 (by decide) (hts (.fieldLink RX13 300 "ClassMillModel" "runPlace" "[I") mw_h6_140) (fun _ h9 => h9) hf152 dX13_enter_21 ?_
  refine lv_aload_n hx hb dX13_enter_24 rfl (lv_at hl 0 rfl) ?_
  refine va_get (D := (dC, dI)) (ci := 13) (v := .int v149) (C := RX13) (T := TX13) (N := 155) hx hb hts uV_h6_X13 hown hK hP 0 rfl rfl 149 (by decide) (hts (.fieldLink RX13 1058 "ClassMillModel" "depth" "I") mw_h6_138) (fun _ h9 => h9) hf149 dX13_enter_25 ?_
  refine lv_iconst (v := 0) hx hb dX13_enter_28 (by decide) ?_
  obtain ⟨hi_3, hsp⟩ := ox_in hsp
  refine va_iast hx hb hK hP hD hS 3 2 rfl rfl (i := v149) (x := 0) hi_3 dX13_enter_29 ?_
  clear hP hD hS
  intro H locs hP hD hS
  replace hP : va_P (dC, dI) vwCl [(h0, .inr (13, zs)), (qf150, .inl (cf150, 60, .inl (upd f150 (v149 : Int32).toNatClampNeg a1))), (qf151, .inl (cf151, 60, .inl (upd f151 (v149 : Int32).toNatClampNeg a2))), (qf152, .inl (cf152, 60, .inl (upd f152 (v149 : Int32).toNatClampNeg 0))), (qf153, .inl (cf153, 60, .inl f153)), (qf154, .inl (cf154, 3600, .inl f154))] H := hP
  replace hD : va_D A [(h0, .inr (13, zs)), (qf150, .inl (cf150, 60, .inl (upd f150 (v149 : Int32).toNatClampNeg a1))), (qf151, .inl (cf151, 60, .inl (upd f151 (v149 : Int32).toNatClampNeg a2))), (qf152, .inl (cf152, 60, .inl (upd f152 (v149 : Int32).toNatClampNeg 0))), (qf153, .inl (cf153, 60, .inl f153)), (qf154, .inl (cf154, 3600, .inl f154))] := hD
  refine lv_aload_n hx hb dX13_enter_30 rfl (lv_at hl 0 rfl) ?_
  refine va_get (D := (dC, dI)) (ci := 13) (v := .ref qf153) (C := RX13) (T := TX13) (N := 155) hx hb hts uV_h6_X13 hown hK hP 0 rfl rfl 153 (by decide) (hts (.fieldLink RX13 303 "ClassMillModel" "runStack" "[I") mw_h6_141) (fun _ h9 => h9) hf153 dX13_enter_31 ?_
  refine lv_aload_n hx hb dX13_enter_34 rfl (lv_at hl 0 rfl) ?_
  refine va_get (D := (dC, dI)) (ci := 13) (v := .int v149) (C := RX13) (T := TX13) (N := 155) hx hb hts uV_h6_X13 hown hK hP 0 rfl rfl 149 (by decide) (hts (.fieldLink RX13 1058 "ClassMillModel" "depth" "I") mw_h6_138) (fun _ h9 => h9) hf149 dX13_enter_35 ?_
  refine lv_iconst (v := 0) hx hb dX13_enter_38 (by decide) ?_
  obtain ⟨hi_4, hsp⟩ := ox_in hsp
  refine va_iast hx hb hK hP hD hS 4 3 rfl rfl (i := v149) (x := 0) hi_4 dX13_enter_39 ?_
  clear hP hD hS
  intro H locs hP hD hS
  replace hP : va_P (dC, dI) vwCl [(h0, .inr (13, zs)), (qf150, .inl (cf150, 60, .inl (upd f150 (v149 : Int32).toNatClampNeg a1))), (qf151, .inl (cf151, 60, .inl (upd f151 (v149 : Int32).toNatClampNeg a2))), (qf152, .inl (cf152, 60, .inl (upd f152 (v149 : Int32).toNatClampNeg 0))), (qf153, .inl (cf153, 60, .inl (upd f153 (v149 : Int32).toNatClampNeg 0))), (qf154, .inl (cf154, 3600, .inl f154))] H := hP
  replace hD : va_D A [(h0, .inr (13, zs)), (qf150, .inl (cf150, 60, .inl (upd f150 (v149 : Int32).toNatClampNeg a1))), (qf151, .inl (cf151, 60, .inl (upd f151 (v149 : Int32).toNatClampNeg a2))), (qf152, .inl (cf152, 60, .inl (upd f152 (v149 : Int32).toNatClampNeg 0))), (qf153, .inl (cf153, 60, .inl (upd f153 (v149 : Int32).toNatClampNeg 0))), (qf154, .inl (cf154, 3600, .inl f154))] := hD
  refine lv_iconst (v := 0) hx hb dX13_enter_40 (by decide) ?_
  refine lv_istore_n (lv' := [(3, .int 0), (0, .ref h0), (1, .int a1), (2, .int a2)]) hx hb dX13_enter_41 rfl hl (by decide) rfl (fun ls hl => ?_)
  replace hP := hP.sub (ws' := [(h0, .inr (13, zs)), (qf150, .inl (cf150, 60, .inl (upd f150 (v149 : Int32).toNatClampNeg a1))), (qf151, .inl (cf151, 60, .inl (upd f151 (v149 : Int32).toNatClampNeg a2))), (qf152, .inl (cf152, 60, .inl (upd f152 (v149 : Int32).toNatClampNeg 0))), (qf153, .inl (cf153, 60, .inl (upd f153 (v149 : Int32).toNatClampNeg 0))), (qf154, .inl (cf154, 3600, .inl f154))]) [0, 1, 2, 3, 4, 5] rfl
  replace hD := hD.sub (ws' := [(h0, .inr (13, zs)), (qf150, .inl (cf150, 60, .inl (upd f150 (v149 : Int32).toNatClampNeg a1))), (qf151, .inl (cf151, 60, .inl (upd f151 (v149 : Int32).toNatClampNeg a2))), (qf152, .inl (cf152, 60, .inl (upd f152 (v149 : Int32).toNatClampNeg 0))), (qf153, .inl (cf153, 60, .inl (upd f153 (v149 : Int32).toNatClampNeg 0))), (qf154, .inl (cf154, 3600, .inl f154))]) [0, 1, 2, 3, 4, 5] (by decide) rfl
  replace hK := hK.sub (tys' := [(cf150, .int), (cf151, .int), (cf152, .int), (cf153, .int), (cf154, .int)]) [0, 1, 2, 3, 4] rfl
  obtain ⟨n_42, hn_42⟩ : ∃ z : Nat, z = nf := ⟨_, rfl⟩
  obtain ⟨z42, ez42⟩ : ∃ z : List Value, z = zs := ⟨_, rfl⟩
  obtain ⟨l1_42, el1_42⟩ : ∃ z : Int32, z = a1 := ⟨_, rfl⟩
  obtain ⟨l2_42, el2_42⟩ : ∃ z : Int32, z = a2 := ⟨_, rfl⟩
  obtain ⟨l3_42, el3_42⟩ : ∃ z : Int32, z = 0 := ⟨_, rfl⟩
  obtain ⟨g150_42, eg150_42⟩ : ∃ z : Nat → Int32, z = (upd f150 (v149 : Int32).toNatClampNeg a1) := ⟨_, rfl⟩
  obtain ⟨g151_42, eg151_42⟩ : ∃ z : Nat → Int32, z = (upd f151 (v149 : Int32).toNatClampNeg a2) := ⟨_, rfl⟩
  obtain ⟨g152_42, eg152_42⟩ : ∃ z : Nat → Int32, z = (upd f152 (v149 : Int32).toNatClampNeg 0) := ⟨_, rfl⟩
  obtain ⟨g153_42, eg153_42⟩ : ∃ z : Nat → Int32, z = (upd f153 (v149 : Int32).toNatClampNeg 0) := ⟨_, rfl⟩
  obtain ⟨g154_42, eg154_42⟩ : ∃ z : Nat → Int32, z = f154 := ⟨_, rfl⟩
  obtain ⟨x149_42, ex149_42⟩ : ∃ z : Int32, z = v149 := ⟨_, rfl⟩
  replace hsp : lp_tn_enter_42 nf n_42 a1 a2 v149 f150 f151 f152 f153 f154 l1_42 l2_42 l3_42 g150_42 g151_42 g152_42 g153_42 g154_42 x149_42 = some (o150, o151, o152, o153, o154, w149) := by rw [hn_42, el1_42, el2_42, el3_42, eg150_42, eg151_42, eg152_42, eg153_42, eg154_42, ex149_42]; exact hsp
  replace hl : lv_has ls 4 [(3, .int l3_42), (0, .ref h0), (1, .int l1_42), (2, .int l2_42)] := by rw [el1_42, el2_42, el3_42]; exact hl
  have hfh_42_149 : z42[149]? = some (.int x149_42) := by rw [ez42, ex149_42]; exact hf149
  have hfh_42_150 : z42[150]? = some (.ref qf150) := by rw [ez42]; exact hf150
  have hfh_42_151 : z42[151]? = some (.ref qf151) := by rw [ez42]; exact hf151
  have hfh_42_152 : z42[152]? = some (.ref qf152) := by rw [ez42]; exact hf152
  have hfh_42_153 : z42[153]? = some (.ref qf153) := by rw [ez42]; exact hf153
  have hfh_42_154 : z42[154]? = some (.ref qf154) := by rw [ez42]; exact hf154
  have hlh_42 : z42.length = 155 := by rw [ez42]; exact hlen
  have hrh_42 : ∀ j : Nat, j ≠ 149 → z42[j]? = zs[j]? := by rw [ez42]; exact hrs0
  replace hP : va_P (dC, dI) vwCl [(h0, .inr (13, z42)), (qf150, .inl (cf150, 60, .inl g150_42)), (qf151, .inl (cf151, 60, .inl g151_42)), (qf152, .inl (cf152, 60, .inl g152_42)), (qf153, .inl (cf153, 60, .inl g153_42)), (qf154, .inl (cf154, 3600, .inl g154_42))] H := by rw [ez42, eg150_42, eg151_42, eg152_42, eg153_42, eg154_42]; exact hP
  replace hD : va_D A [(h0, .inr (13, z42)), (qf150, .inl (cf150, 60, .inl g150_42)), (qf151, .inl (cf151, 60, .inl g151_42)), (qf152, .inl (cf152, 60, .inl g152_42)), (qf153, .inl (cf153, 60, .inl g153_42)), (qf154, .inl (cf154, 3600, .inl g154_42))] := by rw [ez42, eg150_42, eg151_42, eg152_42, eg153_42, eg154_42]; exact hD
  clear hn_42 ez42 el1_42 el2_42 el3_42 eg150_42 eg151_42 eg152_42 eg153_42 eg154_42 ex149_42
  try clear hlo
  try clear hH
  revert hsp
  revert hP
  revert hD
  revert hS
  revert hl
  revert hrh_42
  revert hlh_42
  revert hfh_42_154
  revert hfh_42_153
  revert hfh_42_152
  revert hfh_42_151
  revert hfh_42_150
  revert hfh_42_149
  revert x149_42
  revert g154_42
  revert g153_42
  revert g152_42
  revert g151_42
  revert g150_42
  revert l3_42
  revert l2_42
  revert l1_42
  revert z42
  revert ls
  revert locs
  revert H
  induction n_42 with
  | zero => intro H locs ls z42 l1_42 l2_42 l3_42 g150_42 g151_42 g152_42 g153_42 g154_42 x149_42 hfh_42_149 hfh_42_150 hfh_42_151 hfh_42_152 hfh_42_153 hfh_42_154 hlh_42 hrh_42 hl hS hD hP hsp; unfold lp_tn_enter_42 at hsp; cases hsp
  | succ n_42 ih_42 =>
    intro H locs ls z42 l1_42 l2_42 l3_42 g150_42 g151_42 g152_42 g153_42 g154_42 x149_42 hfh_42_149 hfh_42_150 hfh_42_151 hfh_42_152 hfh_42_153 hfh_42_154 hlh_42 hrh_42 hl hS hD hP hsp
    unfold lp_tn_enter_42 at hsp
    try dsimp only at hsp
    refine lv_iload_n hx hb dX13_enter_42 rfl (lv_at hl 0 rfl) ?_
    refine lv_bipush (v := 60) hx hb dX13_enter_43 (by decide) ?_
    refine lv_icmp_ge (tgt := 69) hx hb dX13_enter_45 (by decide) (fun c_5 => ?_) (fun c_5 => ?_)
    · rw [if_pos c_5] at hsp
      refine lv_aload_n hx hb dX13_enter_69 rfl (lv_at hl 1 rfl) ?_
      refine lv_dup hx hb dX13_enter_70 rfl ?_
      refine va_get (D := (dC, dI)) (ci := 13) (v := .int x149_42) (C := RX13) (T := TX13) (N := 155) hx hb hts uV_h6_X13 hown hK hP 0 rfl rfl 149 (by decide) (hts (.fieldLink RX13 1058 "ClassMillModel" "depth" "I") mw_h6_138) (fun _ h9 => h9) hfh_42_149 dX13_enter_71 ?_
      refine lv_iconst (v := 1) hx hb dX13_enter_74 (by decide) ?_
      refine lv_iadd hx hb dX13_enter_75 ?_
      refine va_put (D := (dC, dI)) (ci := 13) (v := .int (x149_42 + 1)) (ty := .int) (C := RX13) (T := TX13) (N := 155) hx hb hts uV_h6_X13 tyX13 tyX13_ok nmX13 hown hK hP hD hS 0 rfl rfl 149 (by decide) (hts (.fieldLink RX13 1058 "ClassMillModel" "depth" "I") mw_h6_138) (fun _ h9 => h9) rfl (by decide +kernel) rfl rfl (by rw [hlh_42]; decide) dX13_enter_76 ?_
      clear hP hD hS
      intro H locs hP hD hS
      obtain ⟨fs_6, efs_6⟩ : ∃ zf : List Value, zf = z42.set 149 (.int (x149_42 + 1)) := ⟨_, rfl⟩
      rw [← efs_6] at hP hD
      have hlfs_6 : fs_6.length = 155 := by rw [efs_6, List.length_set]; exact hlh_42
      have hfs_6_150 : fs_6[150]? = some (.ref qf150) := by rw [efs_6, List.getElem?_set_ne (by decide)]; exact hfh_42_150
      have hfs_6_151 : fs_6[151]? = some (.ref qf151) := by rw [efs_6, List.getElem?_set_ne (by decide)]; exact hfh_42_151
      have hfs_6_152 : fs_6[152]? = some (.ref qf152) := by rw [efs_6, List.getElem?_set_ne (by decide)]; exact hfh_42_152
      have hfs_6_153 : fs_6[153]? = some (.ref qf153) := by rw [efs_6, List.getElem?_set_ne (by decide)]; exact hfh_42_153
      have hfs_6_154 : fs_6[154]? = some (.ref qf154) := by rw [efs_6, List.getElem?_set_ne (by decide)]; exact hfh_42_154
      have hfs_6_149 : fs_6[149]? = some (.int (x149_42 + 1)) := by rw [efs_6, List.getElem?_set_self (by rw [hlh_42]; decide)]
      replace hP : va_P (dC, dI) vwCl [(h0, .inr (13, fs_6)), (qf150, .inl (cf150, 60, .inl g150_42)), (qf151, .inl (cf151, 60, .inl g151_42)), (qf152, .inl (cf152, 60, .inl g152_42)), (qf153, .inl (cf153, 60, .inl g153_42)), (qf154, .inl (cf154, 3600, .inl g154_42))] H := hP
      replace hD : va_D A [(h0, .inr (13, fs_6)), (qf150, .inl (cf150, 60, .inl g150_42)), (qf151, .inl (cf151, 60, .inl g151_42)), (qf152, .inl (cf152, 60, .inl g152_42)), (qf153, .inl (cf153, 60, .inl g153_42)), (qf154, .inl (cf154, 3600, .inl g154_42))] := hD
      have hrs_7 : ∀ j : Nat, j ≠ 149 → fs_6[j]? = zs[j]? := fun j g149 => ((congrArg (fun z : List Value => z[j]?) efs_6).trans (List.getElem?_set_ne (Ne.symm g149))).trans (hrh_42 j g149)
      have hr0 := Option.some.inj hsp
      clear hsp
      obtain ⟨hq0, hr1⟩ := Prod.mk.inj hr0
      clear hr0
      obtain ⟨hq1, hr2⟩ := Prod.mk.inj hr1
      clear hr1
      obtain ⟨hq2, hr3⟩ := Prod.mk.inj hr2
      clear hr2
      obtain ⟨hq3, hr4⟩ := Prod.mk.inj hr3
      clear hr3
      obtain ⟨hq4, hr5⟩ := Prod.mk.inj hr4
      clear hr4
      subst hq0
      subst hq1
      subst hq2
      subst hq3
      subst hq4
      subst hr5
      have hP9 := hP.sub (ws' := [(h0, .inr (13, fs_6)), (qf150, .inl (cf150, 60, .inl g150_42)), (qf151, .inl (cf151, 60, .inl g151_42)), (qf152, .inl (cf152, 60, .inl g152_42)), (qf153, .inl (cf153, 60, .inl g153_42)), (qf154, .inl (cf154, 3600, .inl g154_42))]) [0, 1, 2, 3, 4, 5] rfl
      have hD9 := hD.sub (ws' := [(h0, .inr (13, fs_6)), (qf150, .inl (cf150, 60, .inl g150_42)), (qf151, .inl (cf151, 60, .inl g151_42)), (qf152, .inl (cf152, 60, .inl g152_42)), (qf153, .inl (cf153, 60, .inl g153_42)), (qf154, .inl (cf154, 3600, .inl g154_42))]) [0, 1, 2, 3, 4, 5] (by decide) rfl
      have hK9 := hK.sub (tys' := [(cf150, .int), (cf151, .int), (cf152, .int), (cf153, .int), (cf154, .int)]) [0, 1, 2, 3, 4] rfl
      exact W.vret hx hb hr (fun t ht hW => ⟨⟨(fs_6), rfl, ⟨trivial, hlfs_6, hrs_7, hfs_6_149⟩, by rw [ht]; exact hP9, va_K.moved hW.alike hK9, hD9⟩, hS.F ht⟩) hS.2.2 dX13_enter_79
    · rw [if_neg c_5] at hsp
      refine lv_aload_n hx hb dX13_enter_48 rfl (lv_at hl 1 rfl) ?_
      refine va_get (D := (dC, dI)) (ci := 13) (v := .ref qf154) (C := RX13) (T := TX13) (N := 155) hx hb hts uV_h6_X13 hown hK hP 0 rfl rfl 154 (by decide) (hts (.fieldLink RX13 306 "ClassMillModel" "cells" "[I") mw_h6_142) (fun _ h9 => h9) hfh_42_154 dX13_enter_49 ?_
      refine lv_bipush (v := 60) hx hb dX13_enter_52 (by decide) ?_
      refine lv_aload_n hx hb dX13_enter_54 rfl (lv_at hl 1 rfl) ?_
      refine va_get (D := (dC, dI)) (ci := 13) (v := .int x149_42) (C := RX13) (T := TX13) (N := 155) hx hb hts uV_h6_X13 hown hK hP 0 rfl rfl 149 (by decide) (hts (.fieldLink RX13 1058 "ClassMillModel" "depth" "I") mw_h6_138) (fun _ h9 => h9) hfh_42_149 dX13_enter_55 ?_
      refine lv_imul hx hb dX13_enter_58 ?_
      refine lv_iload_n hx hb dX13_enter_59 rfl (lv_at hl 0 rfl) ?_
      refine lv_iadd hx hb dX13_enter_60 ?_
      refine lv_iconst (v := 0) hx hb dX13_enter_61 (by decide) ?_
      obtain ⟨hi_8, hsp⟩ := ox_in hsp
      refine va_iast hx hb hK hP hD hS 5 4 rfl rfl (i := ((60 * x149_42) + l3_42)) (x := 0) hi_8 dX13_enter_62 ?_
      clear hP hD hS
      intro H locs hP hD hS
      replace hP : va_P (dC, dI) vwCl [(h0, .inr (13, z42)), (qf150, .inl (cf150, 60, .inl g150_42)), (qf151, .inl (cf151, 60, .inl g151_42)), (qf152, .inl (cf152, 60, .inl g152_42)), (qf153, .inl (cf153, 60, .inl g153_42)), (qf154, .inl (cf154, 3600, .inl (upd g154_42 (((60 * x149_42) + l3_42) : Int32).toNatClampNeg 0)))] H := hP
      replace hD : va_D A [(h0, .inr (13, z42)), (qf150, .inl (cf150, 60, .inl g150_42)), (qf151, .inl (cf151, 60, .inl g151_42)), (qf152, .inl (cf152, 60, .inl g152_42)), (qf153, .inl (cf153, 60, .inl g153_42)), (qf154, .inl (cf154, 3600, .inl (upd g154_42 (((60 * x149_42) + l3_42) : Int32).toNatClampNeg 0)))] := hD
      refine lv_iinc (v := (l3_42 + 1)) (lv' := [(3, .int (l3_42 + 1)), (0, .ref h0), (1, .int l1_42), (2, .int l2_42)]) hx hb dX13_enter_63 hl (k := 0) rfl rfl (by decide) rfl (fun ls hl => ?_)
      refine lv_goto (tgt := 42) hx hb dX13_enter_66 (by decide) ?_
      exact ih_42 H locs ls z42 l1_42 l2_42 (l3_42 + 1) g150_42 g151_42 g152_42 g153_42 (upd g154_42 (((60 * x149_42) + l3_42) : Int32).toNatClampNeg 0) x149_42 (hfh_42_149) (hfh_42_150) (hfh_42_151) (hfh_42_152) (hfh_42_153) (hfh_42_154) hlh_42 hrh_42 (lv_sub hl [0, 1, 2, 3] rfl) hS (hD.sub (ws' := [(h0, .inr (13, z42)), (qf150, .inl (cf150, 60, .inl g150_42)), (qf151, .inl (cf151, 60, .inl g151_42)), (qf152, .inl (cf152, 60, .inl g152_42)), (qf153, .inl (cf153, 60, .inl g153_42)), (qf154, .inl (cf154, 3600, .inl (upd g154_42 (((60 * x149_42) + l3_42) : Int32).toNatClampNeg 0)))]) [0, 1, 2, 3, 4, 5] (by decide) rfl) (hP.sub (ws' := [(h0, .inr (13, z42)), (qf150, .inl (cf150, 60, .inl g150_42)), (qf151, .inl (cf151, 60, .inl g151_42)), (qf152, .inl (cf152, 60, .inl g152_42)), (qf153, .inl (cf153, 60, .inl g153_42)), (qf154, .inl (cf154, 3600, .inl (upd g154_42 (((60 * x149_42) + l3_42) : Int32).toNatClampNeg 0)))]) [0, 1, 2, 3, 4, 5] rfl) hsp
def sp_tn_intOf (nf : Nat) (a1 : Int32) (v149 : Int32) (f150 : Nat → Int32) (f102 : Nat → Int32) (f100 : Nat → Int32) : Option (Int32) := (if (v149 - 1) < 0 then none else if 60 ≤ ((v149 - 1) : Int32).toNatClampNeg then none else (if ((256 * ((f150 ((v149 - 1) : Int32).toNatClampNeg) - 8)) + a1) < 0 then none else if 2048 ≤ (((256 * ((f150 ((v149 - 1) : Int32).toNatClampNeg) - 8)) + a1) : Int32).toNatClampNeg then none else ((sp_tm_byteAt nf ((f150 ((v149 - 1) : Int32).toNatClampNeg) - 8) ((f102 (((256 * ((f150 ((v149 - 1) : Int32).toNatClampNeg) - 8)) + a1) : Int32).toNatClampNeg) + 1) f100).bind (fun p1 => ((sp_tm_byteAt nf ((f150 ((v149 - 1) : Int32).toNatClampNeg) - 8) (((f102 (((256 * ((f150 ((v149 - 1) : Int32).toNatClampNeg) - 8)) + a1) : Int32).toNatClampNeg) + 1) + 1) f100).bind (fun p2 => ((sp_tm_byteAt nf ((f150 ((v149 - 1) : Int32).toNatClampNeg) - 8) (((f102 (((256 * ((f150 ((v149 - 1) : Int32).toNatClampNeg) - 8)) + a1) : Int32).toNatClampNeg) + 1) + 2) f100).bind (fun p3 => ((sp_tm_byteAt nf ((f150 ((v149 - 1) : Int32).toNatClampNeg) - 8) (((f102 (((256 * ((f150 ((v149 - 1) : Int32).toNatClampNeg) - 8)) + a1) : Int32).toNatClampNeg) + 1) + 3) f100).bind (fun p4 => (some ((((p1 <<< (24 &&& 31)) ||| (p2 <<< (16 &&& 31))) ||| (p3 <<< (8 &&& 31))) ||| p4))))))))))))
