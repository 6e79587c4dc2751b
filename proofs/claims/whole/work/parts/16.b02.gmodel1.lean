set_option maxHeartbeats 4000000 in
set_option maxRecDepth 100000 in
/-- ClassMillModel.side -/
theorem tm_side (l : Launch) (dC : Nat → ClassId) (dI : Nat → Nat → Nat) (sz : Nat) (h0 : Nat) (zs : (List Value)) (a1 : Int32) (a2 : Int32) (qf5 : Nat) (v9 : Int32) (v10 : Int32) (qf12 : Nat) (cf12 : ClassId) (f12 : (Nat → Int32)) (cf5 : ClassId) (f5 : (Nat → Int32)) (nf : Nat) (r0 : Int32) (w10 : Int32) (w9 : Int32) (hlen : zs.length = 155) (hf5 : zs[5]? = some (.ref qf5)) (hf9 : zs[9]? = some (.int v9)) (hf10 : zs[10]? = some (.int v10)) (hf12 : zs[12]? = some (.ref qf12)) (hsp : sp_tm_side nf a1 a2 v9 v10 f12 f5 = some (r0, w10, w9)) : Met l yX13_side (.code yX13_side cX13_side 3 (some .int) :: VS_h5) ({ frames := 1, cells := 0, slots := 0, locals := 22 }) (va_Pc [.ref h0, .int a1, .int a2] (fun U => U.heap.size = sz ∧ va_P (dC, dI) vwCl [(h0, .inr (13, zs)), (qf12, .inl (cf12, 9000, .inl f12)), (qf5, .inl (cf5, 3002, .inl f5))] U.heap ∧ va_K (dC, dI) vwCl [(cf12, .int), (cf5, .int)] U ∧ va_D (fun _ => True) [(h0, .inr (13, zs)), (qf12, .inl (cf12, 9000, .inl f12)), (qf5, .inl (cf5, 3002, .inl f5))])) (va_Qi (fun (r : Int32) (u : (List Value)) => match u with | (zo1) => r0 = r ∧ zo1.length = 155 ∧ (∀ j : Nat, j ≠ 10 → j ≠ 9 → zo1[j]? = zs[j]?) ∧ zo1[10]? = some (.int w10) ∧ zo1[9]? = some (.int w9)) (fun (u : (List Value)) (t : State) => match u with | (zo1) => va_P (dC, dI) vwCl [(h0, .inr (13, zo1)), (qf12, .inl (cf12, 9000, .inl f12)), (qf5, .inl (cf5, 3002, .inl f5))] t.heap ∧ va_K (dC, dI) vwCl [(cf12, .int), (cf5, .int)] t ∧ va_D (va_A [(h0, .inr (13, zs)), (qf12, .inl (cf12, 9000, .inl f12)), (qf5, .inl (cf5, 3002, .inl f5))] sz) [(h0, .inr (13, zo1)), (qf12, .inl (cf12, 9000, .inl f12)), (qf5, .inl (cf5, 3002, .inl f5))]) (va_A [(h0, .inr (13, zs)), (qf12, .inl (cf12, 9000, .inl f12)), (qf5, .inl (cf5, 3002, .inl f5))] sz)) 0 0 (va_A [(h0, .inr (13, zs)), (qf12, .inl (cf12, 9000, .inl f12)), (qf5, .inl (cf5, 3002, .inl f5))] sz) := by
  refine Met.ofW (cc := cX13_side) (maxL := 3) (ret := (some .int)) (by decide) rfl ?_
  intro p e s m args below meth c s₁ B hml hv
  obtain ⟨rfl, hsz, hP, hK, hD0⟩ := hv
  have hx := B.exec
  have hb := B.bytes
  have hr := B.returns
  have hts := atoms_spec (ws := (.code yX13_side cX13_side 3 (some .int) :: VS_h5)) B.pre
  replace hts := fun w (h : w ∈ VS_h5) => hts w (List.mem_cons_of_mem _ h)
  have hown : s.vm.findClass RX13 = some m.cls := findClass_of_methodNamed B.named
  have hlocks := B.notSynchronized
  subst hsz
  have hD := hD0.self (sz := s.heap.size)
  generalize hAe : va_A [(h0, .inr (13, zs)), (qf12, .inl (cf12, 9000, .inl f12)), (qf5, .inl (cf5, 3002, .inl f5))] s.heap.size = A at hD  ⊢
  have hA : ∀ q : Nat, s.heap.size ≤ q → A q := fun q h => by rw [← hAe]; exact Or.inr h
  have hP : va_P (dC, dI) vwCl [(h0, .inr (13, zs)), (qf12, .inl (cf12, 9000, .inl f12)), (qf5, .inl (cf5, 3002, .inl f5))] s.heap := hP
  have hl := lv_entry ([.ref h0, .int a1, .int a2]) (n := 3) (Nat.le_of_ble_eq_true rfl)
  rw [lg_entry_eq]
  generalize (lg_sl ([.ref h0, .int a1, .int a2]) ++ List.replicate (3 - (lg_sl ([.ref h0, .int a1, .int a2])).length) Slot.unset).toArray = ls at hl ⊢
  have hl : lv_has ls 3 [(0, .ref h0), (1, .int a1), (2, .int a2)] := hl
  obtain ⟨H, hH⟩ : ∃ H : Heap, s.heap = H := ⟨_, rfl⟩
  rw [hH] at hP ⊢
  have hS : va_S A s.heap H [] := by rw [← hH]; exact va_S.rf
  obtain ⟨locs, hlo⟩ : ∃ locs : List Loc, locs = [] := ⟨_, rfl⟩
  rw [← hlo] at hS ⊢
  have hrs0 : ∀ j : Nat, j ≠ 10 → j ≠ 9 → zs[j]? = zs[j]? := fun _ _ _  => rfl
  unfold sp_tm_side at hsp
  refine lv_iload_n hx hb dX13_side_0 rfl (lv_at hl 2 rfl) ?_
  refine lv_iconst (v := 3) hx hb dX13_side_1 (by decide) ?_
  refine lv_icmp_ne (tgt := 17) hx hb dX13_side_2 (by decide) (fun c_1 => ?_) (fun c_1 => ?_)
  · rw [if_neg c_1] at hsp
    refine lv_iload_n hx hb dX13_side_17 rfl (lv_at hl 2 rfl) ?_
    have hr0 := Option.some.inj hsp
    clear hsp
    obtain ⟨hq0, hr1⟩ := Prod.mk.inj hr0
    clear hr0
    obtain ⟨hq1, hr2⟩ := Prod.mk.inj hr1
    clear hr1
    subst hq0
    subst hq1
    subst hr2
    have hP9 := hP.sub (ws' := [(h0, .inr (13, zs)), (qf12, .inl (cf12, 9000, .inl f12)), (qf5, .inl (cf5, 3002, .inl f5))]) [0, 1, 2] rfl
    have hD9 := hD.sub (ws' := [(h0, .inr (13, zs)), (qf12, .inl (cf12, 9000, .inl f12)), (qf5, .inl (cf5, 3002, .inl f5))]) [0, 1, 2] (by decide) rfl
    have hK9 := hK.sub (tys' := [(cf12, .int), (cf5, .int)]) [0, 1] rfl
    exact W.iret hx hb hr (fun t ht hW => ⟨⟨(a2), (zs), rfl, ⟨rfl, hlen, hrs0, hf10, hf9⟩, by rw [ht]; exact hP9, va_K.moved hW.alike hK9, hD9⟩, hS.F ht⟩) hS.2.2 dX13_side_18
  · rw [if_pos c_1] at hsp
    refine lv_aload_n hx hb dX13_side_5 rfl (lv_at hl 0 rfl) ?_
    refine lv_bipush (v := 6) hx hb dX13_side_6 (by decide) ?_
    refine lv_aload_n hx hb dX13_side_8 rfl (lv_at hl 0 rfl) ?_
    refine va_get (D := (dC, dI)) (ci := 13) (v := .ref qf12) (C := RX13) (T := TX13) (N := 155) hx hb hts uV_h5_X13 hown hK hP 0 rfl rfl 12 (by decide) (hts (.fieldLink RX13 31 "ClassMillModel" "tok" "[I") mw_h5_36) (fun _ h9 => h9) hf12 dX13_side_9 ?_
    refine lv_iload_n hx hb dX13_side_12 rfl (lv_at hl 1 rfl) ?_
    obtain ⟨hi_2, hsp⟩ := ox_in hsp
    refine va_iald hx hb hK hP 1 0 rfl rfl (i := a1) hi_2 dX13_side_13 ?_
    obtain ⟨⟨u1_0, u1_1⟩, hu_1, hsp⟩ := ox_bind hsp
    try dsimp only at hsp
    have hPc := hP.sub (ws' := [(h0, .inr (13, zs)), (qf5, .inl (cf5, 3002, .inl f5))]) [0, 2] rfl
    have hDc := hD.sub (ws' := [(h0, .inr (13, zs)), (qf5, .inl (cf5, 3002, .inl f5))]) [0, 2] (by decide) rfl
    have hKc := hK.sub (tys' := [(cf5, .int)]) [1] rfl
    have hFc := va_free (wc := [(h0, .inr (13, zs)), (qf5, .inl (cf5, 3002, .inl f5))]) hD hS hA [0, 2] rfl
    refine va_callv (va_runV (As := [.int 6, .int (f12 (a1 : Int32).toNatClampNeg)]) (rest := []) ⟨hx, hb, hml, hown, hts⟩ (tm_wrong l dC dI H.size h0 zs 6 ((f12 (a1 : Int32).toNatClampNeg)) qf5 v9 v10 cf5 f5 nf u1_0 u1_1 hlen hf5 hf9 hf10 hu_1) (cwV 2 hts gv_h5_0 rfl rfl rfl (by decide +kernel) ⟨Nat.le_of_ble_eq_true rfl, Nat.le_of_ble_eq_true rfl⟩) ⟨fun a U g mk q => by obtain ⟨q0, q1, qP, qK, qD⟩ := q; exact ⟨q0, q1, qP, va_K.moved (u := U) (U := U.calling g mk a) (Vm.Alike.refl U.vm) qK, qD⟩, va_recv hKc hPc (ci := 13) (q0 := 0) rfl rfl, fun U hU hW => ⟨rfl, by rw [hU], by rw [hU]; exact hPc, va_K.moved hW.alike hKc, hDc.weaken (fun _ _ _ _ => trivial)⟩⟩ rfl rfl hl.1 rfl (lv_room (Nat.le_of_ble_eq_true rfl)) dX13_side_14 ⟨Nat.le_of_ble_eq_true rfl, Nat.le_of_ble_eq_true rfl⟩) hS (fun q _ h => hFc q h) hFc ?_
    clear hS
    intro u t H1 locs ht hvm hw hB hz1 hk1 hS
    obtain ⟨z_1, rfl⟩ : ∃ z, z = u := ⟨_, rfl⟩
    obtain ⟨hP1, hK1, hD1⟩ := hB
    rw [ht] at hP1
    have hK1 := va_K.moved hvm.symm hK1
    try dsimp only at hw
    have hPD := va_join (wr := [(qf12, .inl (cf12, 9000, .inl f12))]) (w1 := [(h0, .inr (13, z_1)), (qf5, .inl (cf5, 3002, .inl f5))]) hP hD [0, 2] [1] rfl rfl (by decide) (by decide) hk1 hFc hP1 hD1
    clear hP hD
    obtain ⟨hP, hD⟩ := hPD
    replace hK := (hK.sub (tys' := [(cf12, .int)]) [0] rfl).app hK1
    clear hPc hDc hKc hFc hP1 hK1 hD1 hz1 hk1 ht hvm
    generalize H1 = H at hP hS ⊢
    replace hP : va_P (dC, dI) vwCl [(qf12, .inl (cf12, 9000, .inl f12)), (h0, .inr (13, z_1)), (qf5, .inl (cf5, 3002, .inl f5))] H := hP
    replace hD : va_D A [(qf12, .inl (cf12, 9000, .inl f12)), (h0, .inr (13, z_1)), (qf5, .inl (cf5, 3002, .inl f5))] := hD
    replace hK : va_K (dC, dI) vwCl [(cf12, .int), (cf5, .int)] s := hK
    obtain ⟨hwa_1, hln_1, hre_1, hch_1_10, hch_1_9⟩ := hw
    have hfk_1_5 : z_1[5]? = some (.ref qf5) := (hre_1 5 (by decide) (by decide)).trans (hf5)
    have hfk_1_12 : z_1[12]? = some (.ref qf12) := (hre_1 12 (by decide) (by decide)).trans (hf12)
    have hrq_1 : ∀ j : Nat, j ≠ 10 → j ≠ 9 → z_1[j]? = zs[j]? := fun j g10 g9 => (hre_1 j g10 g9).trans (hrs0 j g10 g9)
    refine lv_iload_n hx hb dX13_side_17 rfl (lv_at hl 2 rfl) ?_
    have hr0 := Option.some.inj hsp
    clear hsp
    obtain ⟨hq0, hr1⟩ := Prod.mk.inj hr0
    clear hr0
    obtain ⟨hq1, hr2⟩ := Prod.mk.inj hr1
    clear hr1
    subst hq0
    subst hq1
    subst hr2
    have hP9 := hP.sub (ws' := [(h0, .inr (13, z_1)), (qf12, .inl (cf12, 9000, .inl f12)), (qf5, .inl (cf5, 3002, .inl f5))]) [1, 0, 2] rfl
    have hD9 := hD.sub (ws' := [(h0, .inr (13, z_1)), (qf12, .inl (cf12, 9000, .inl f12)), (qf5, .inl (cf5, 3002, .inl f5))]) [1, 0, 2] (by decide) rfl
    have hK9 := hK.sub (tys' := [(cf12, .int), (cf5, .int)]) [0, 1] rfl
    exact W.iret hx hb hr (fun t ht hW => ⟨⟨(a2), (z_1), rfl, ⟨rfl, hln_1, hrq_1, hch_1_10, hch_1_9⟩, by rw [ht]; exact hP9, va_K.moved hW.alike hK9, hD9⟩, hS.F ht⟩) hS.2.2 dX13_side_18
def sp_tm_led (nf : Nat) (a1 : Int32) (v9 : Int32) (v10 : Int32) (f14 : Nat → Int32) (f18 : Nat → Int32) (f12 : Nat → Int32) (f5 : Nat → Int32) : Option (Int32 × Int32 × Int32) := (if v9 = 0 then (if a1 < 0 then none else if 9000 ≤ (a1 : Int32).toNatClampNeg then none else (if (f14 (a1 : Int32).toNatClampNeg) < 0 then none else if 9000 ≤ ((f14 (a1 : Int32).toNatClampNeg) : Int32).toNatClampNeg then none else (if (f18 ((f14 (a1 : Int32).toNatClampNeg) : Int32).toNatClampNeg) = 3 then (if a1 < 0 then none else if 9000 ≤ (a1 : Int32).toNatClampNeg then none else (if (f14 (a1 : Int32).toNatClampNeg) < 0 then none else if 9000 ≤ ((f14 (a1 : Int32).toNatClampNeg) : Int32).toNatClampNeg then none else ((sp_tm_wrong nf 6 (f12 ((f14 (a1 : Int32).toNatClampNeg) : Int32).toNatClampNeg) v9 v10 f5).bind (fun p1 => (some ((f18 ((f14 (a1 : Int32).toNatClampNeg) : Int32).toNatClampNeg), p1.1, p1.2)))))) else (some ((f18 ((f14 (a1 : Int32).toNatClampNeg) : Int32).toNatClampNeg), v10, v9))))) else (some (0, v10, v9)))
set_option maxHeartbeats 4000000 in
set_option maxRecDepth 100000 in
/-- ClassMillModel.led -/
theorem tm_led (l : Launch) (dC : Nat → ClassId) (dI : Nat → Nat → Nat) (sz : Nat) (h0 : Nat) (zs : (List Value)) (a1 : Int32) (qf5 : Nat) (v9 : Int32) (v10 : Int32) (qf12 : Nat) (qf14 : Nat) (qf18 : Nat) (cf14 : ClassId) (f14 : (Nat → Int32)) (cf18 : ClassId) (f18 : (Nat → Int32)) (cf12 : ClassId) (f12 : (Nat → Int32)) (cf5 : ClassId) (f5 : (Nat → Int32)) (nf : Nat) (r0 : Int32) (w10 : Int32) (w9 : Int32) (hlen : zs.length = 155) (hf5 : zs[5]? = some (.ref qf5)) (hf9 : zs[9]? = some (.int v9)) (hf10 : zs[10]? = some (.int v10)) (hf12 : zs[12]? = some (.ref qf12)) (hf14 : zs[14]? = some (.ref qf14)) (hf18 : zs[18]? = some (.ref qf18)) (hsp : sp_tm_led nf a1 v9 v10 f14 f18 f12 f5 = some (r0, w10, w9)) : Met l yX13_led (.code yX13_led cX13_led 3 (some .int) :: VS_h5) ({ frames := 1, cells := 0, slots := 0, locals := 22 }) (va_Pc [.ref h0, .int a1] (fun U => U.heap.size = sz ∧ va_P (dC, dI) vwCl [(h0, .inr (13, zs)), (qf14, .inl (cf14, 9000, .inl f14)), (qf18, .inl (cf18, 9000, .inl f18)), (qf12, .inl (cf12, 9000, .inl f12)), (qf5, .inl (cf5, 3002, .inl f5))] U.heap ∧ va_K (dC, dI) vwCl [(cf14, .int), (cf18, .int), (cf12, .int), (cf5, .int)] U ∧ va_D (fun _ => True) [(h0, .inr (13, zs)), (qf14, .inl (cf14, 9000, .inl f14)), (qf18, .inl (cf18, 9000, .inl f18)), (qf12, .inl (cf12, 9000, .inl f12)), (qf5, .inl (cf5, 3002, .inl f5))])) (va_Qi (fun (r : Int32) (u : (List Value)) => match u with | (zo1) => r0 = r ∧ zo1.length = 155 ∧ (∀ j : Nat, j ≠ 10 → j ≠ 9 → zo1[j]? = zs[j]?) ∧ zo1[10]? = some (.int w10) ∧ zo1[9]? = some (.int w9)) (fun (u : (List Value)) (t : State) => match u with | (zo1) => va_P (dC, dI) vwCl [(h0, .inr (13, zo1)), (qf14, .inl (cf14, 9000, .inl f14)), (qf18, .inl (cf18, 9000, .inl f18)), (qf12, .inl (cf12, 9000, .inl f12)), (qf5, .inl (cf5, 3002, .inl f5))] t.heap ∧ va_K (dC, dI) vwCl [(cf14, .int), (cf18, .int), (cf12, .int), (cf5, .int)] t ∧ va_D (va_A [(h0, .inr (13, zs)), (qf14, .inl (cf14, 9000, .inl f14)), (qf18, .inl (cf18, 9000, .inl f18)), (qf12, .inl (cf12, 9000, .inl f12)), (qf5, .inl (cf5, 3002, .inl f5))] sz) [(h0, .inr (13, zo1)), (qf14, .inl (cf14, 9000, .inl f14)), (qf18, .inl (cf18, 9000, .inl f18)), (qf12, .inl (cf12, 9000, .inl f12)), (qf5, .inl (cf5, 3002, .inl f5))]) (va_A [(h0, .inr (13, zs)), (qf14, .inl (cf14, 9000, .inl f14)), (qf18, .inl (cf18, 9000, .inl f18)), (qf12, .inl (cf12, 9000, .inl f12)), (qf5, .inl (cf5, 3002, .inl f5))] sz)) 0 0 (va_A [(h0, .inr (13, zs)), (qf14, .inl (cf14, 9000, .inl f14)), (qf18, .inl (cf18, 9000, .inl f18)), (qf12, .inl (cf12, 9000, .inl f12)), (qf5, .inl (cf5, 3002, .inl f5))] sz) := by
  refine Met.ofW (cc := cX13_led) (maxL := 3) (ret := (some .int)) (by decide) rfl ?_
  intro p e s m args below meth c s₁ B hml hv
  obtain ⟨rfl, hsz, hP, hK, hD0⟩ := hv
  have hx := B.exec
  have hb := B.bytes
  have hr := B.returns
  have hts := atoms_spec (ws := (.code yX13_led cX13_led 3 (some .int) :: VS_h5)) B.pre
  replace hts := fun w (h : w ∈ VS_h5) => hts w (List.mem_cons_of_mem _ h)
  have hown : s.vm.findClass RX13 = some m.cls := findClass_of_methodNamed B.named
  have hlocks := B.notSynchronized
  subst hsz
  have hD := hD0.self (sz := s.heap.size)
  generalize hAe : va_A [(h0, .inr (13, zs)), (qf14, .inl (cf14, 9000, .inl f14)), (qf18, .inl (cf18, 9000, .inl f18)), (qf12, .inl (cf12, 9000, .inl f12)), (qf5, .inl (cf5, 3002, .inl f5))] s.heap.size = A at hD  ⊢
  have hA : ∀ q : Nat, s.heap.size ≤ q → A q := fun q h => by rw [← hAe]; exact Or.inr h
  have hP : va_P (dC, dI) vwCl [(h0, .inr (13, zs)), (qf14, .inl (cf14, 9000, .inl f14)), (qf18, .inl (cf18, 9000, .inl f18)), (qf12, .inl (cf12, 9000, .inl f12)), (qf5, .inl (cf5, 3002, .inl f5))] s.heap := hP
  have hl := lv_entry ([.ref h0, .int a1]) (n := 3) (Nat.le_of_ble_eq_true rfl)
  rw [lg_entry_eq]
  generalize (lg_sl ([.ref h0, .int a1]) ++ List.replicate (3 - (lg_sl ([.ref h0, .int a1])).length) Slot.unset).toArray = ls at hl ⊢
  have hl : lv_has ls 3 [(0, .ref h0), (1, .int a1)] := hl
  obtain ⟨H, hH⟩ : ∃ H : Heap, s.heap = H := ⟨_, rfl⟩
  rw [hH] at hP ⊢
  have hS : va_S A s.heap H [] := by rw [← hH]; exact va_S.rf
  obtain ⟨locs, hlo⟩ : ∃ locs : List Loc, locs = [] := ⟨_, rfl⟩
  rw [← hlo] at hS ⊢
  have hrs0 : ∀ j : Nat, j ≠ 10 → j ≠ 9 → zs[j]? = zs[j]? := fun _ _ _  => rfl
  unfold sp_tm_led at hsp
  refine lv_aload_n hx hb dX13_led_0 rfl (lv_at hl 0 rfl) ?_
  refine va_get (D := (dC, dI)) (ci := 13) (v := .int v9) (C := RX13) (T := TX13) (N := 155) hx hb hts uV_h5_X13 hown hK hP 0 rfl rfl 9 (by decide) (hts (.fieldLink RX13 319 "ClassMillModel" "fault" "I") mw_h5_1) (fun _ h9 => h9) hf9 dX13_led_1 ?_
  refine lv_if_eq (tgt := 9) hx hb dX13_led_4 (by decide) (fun c_1 => ?_) (fun c_1 => ?_)
  · rw [if_pos c_1] at hsp
    refine lv_aload_n hx hb dX13_led_9 rfl (lv_at hl 0 rfl) ?_
    refine va_get (D := (dC, dI)) (ci := 13) (v := .ref qf18) (C := RX13) (T := TX13) (N := 155) hx hb hts uV_h5_X13 hown hK hP 0 rfl rfl 18 (by decide) (hts (.fieldLink RX13 49 "ClassMillModel" "gives" "[I") mw_h5_37) (fun _ h9 => h9) hf18 dX13_led_10 ?_
    refine lv_aload_n hx hb dX13_led_13 rfl (lv_at hl 0 rfl) ?_
    refine va_get (D := (dC, dI)) (ci := 13) (v := .ref qf14) (C := RX13) (T := TX13) (N := 155) hx hb hts uV_h5_X13 hown hK hP 0 rfl rfl 14 (by decide) (hts (.fieldLink RX13 37 "ClassMillModel" "one" "[I") mw_h5_38) (fun _ h9 => h9) hf14 dX13_led_14 ?_
    refine lv_iload_n hx hb dX13_led_17 rfl (lv_at hl 1 rfl) ?_
    obtain ⟨hi_2, hsp⟩ := ox_in hsp
    refine va_iald hx hb hK hP 1 0 rfl rfl (i := a1) hi_2 dX13_led_18 ?_
    obtain ⟨hi_3, hsp⟩ := ox_in hsp
    refine va_iald hx hb hK hP 2 1 rfl rfl (i := (f14 (a1 : Int32).toNatClampNeg)) hi_3 dX13_led_19 ?_
    refine lv_istore_n (lv' := [(2, .int (f18 ((f14 (a1 : Int32).toNatClampNeg) : Int32).toNatClampNeg)), (0, .ref h0), (1, .int a1)]) hx hb dX13_led_20 rfl hl (by decide) rfl (fun ls hl => ?_)
    refine lv_iload_n hx hb dX13_led_21 rfl (lv_at hl 0 rfl) ?_
    refine lv_iconst (v := 3) hx hb dX13_led_22 (by decide) ?_
    refine lv_icmp_ne (tgt := 43) hx hb dX13_led_23 (by decide) (fun c_4 => ?_) (fun c_4 => ?_)
    · rw [if_neg c_4] at hsp
      refine lv_iload_n hx hb dX13_led_43 rfl (lv_at hl 0 rfl) ?_
      have hr0 := Option.some.inj hsp
      clear hsp
      obtain ⟨hq0, hr1⟩ := Prod.mk.inj hr0
      clear hr0
      obtain ⟨hq1, hr2⟩ := Prod.mk.inj hr1
      clear hr1
      subst hq0
      subst hq1
      subst hr2
      have hP9 := hP.sub (ws' := [(h0, .inr (13, zs)), (qf14, .inl (cf14, 9000, .inl f14)), (qf18, .inl (cf18, 9000, .inl f18)), (qf12, .inl (cf12, 9000, .inl f12)), (qf5, .inl (cf5, 3002, .inl f5))]) [0, 1, 2, 3, 4] rfl
      have hD9 := hD.sub (ws' := [(h0, .inr (13, zs)), (qf14, .inl (cf14, 9000, .inl f14)), (qf18, .inl (cf18, 9000, .inl f18)), (qf12, .inl (cf12, 9000, .inl f12)), (qf5, .inl (cf5, 3002, .inl f5))]) [0, 1, 2, 3, 4] (by decide) rfl
      have hK9 := hK.sub (tys' := [(cf14, .int), (cf18, .int), (cf12, .int), (cf5, .int)]) [0, 1, 2, 3] rfl
      exact W.iret hx hb hr (fun t ht hW => ⟨⟨((f18 ((f14 (a1 : Int32).toNatClampNeg) : Int32).toNatClampNeg)), (zs), rfl, ⟨rfl, hlen, hrs0, hf10, hf9⟩, by rw [ht]; exact hP9, va_K.moved hW.alike hK9, hD9⟩, hS.F ht⟩) hS.2.2 dX13_led_44
    · rw [if_pos c_4] at hsp
      refine lv_aload_n hx hb dX13_led_26 rfl (lv_at hl 1 rfl) ?_
      refine lv_bipush (v := 6) hx hb dX13_led_27 (by decide) ?_
      refine lv_aload_n hx hb dX13_led_29 rfl (lv_at hl 1 rfl) ?_
      refine va_get (D := (dC, dI)) (ci := 13) (v := .ref qf12) (C := RX13) (T := TX13) (N := 155) hx hb hts uV_h5_X13 hown hK hP 0 rfl rfl 12 (by decide) (hts (.fieldLink RX13 31 "ClassMillModel" "tok" "[I") mw_h5_36) (fun _ h9 => h9) hf12 dX13_led_30 ?_
      refine lv_aload_n hx hb dX13_led_33 rfl (lv_at hl 1 rfl) ?_
      refine va_get (D := (dC, dI)) (ci := 13) (v := .ref qf14) (C := RX13) (T := TX13) (N := 155) hx hb hts uV_h5_X13 hown hK hP 0 rfl rfl 14 (by decide) (hts (.fieldLink RX13 37 "ClassMillModel" "one" "[I") mw_h5_38) (fun _ h9 => h9) hf14 dX13_led_34 ?_
      refine lv_iload_n hx hb dX13_led_37 rfl (lv_at hl 2 rfl) ?_
      obtain ⟨hi_5, hsp⟩ := ox_in hsp
      refine va_iald hx hb hK hP 1 0 rfl rfl (i := a1) hi_5 dX13_led_38 ?_
      obtain ⟨hi_6, hsp⟩ := ox_in hsp
      refine va_iald hx hb hK hP 3 2 rfl rfl (i := (f14 (a1 : Int32).toNatClampNeg)) hi_6 dX13_led_39 ?_
      obtain ⟨⟨u1_0, u1_1⟩, hu_1, hsp⟩ := ox_bind hsp
      try dsimp only at hsp
      have hPc := hP.sub (ws' := [(h0, .inr (13, zs)), (qf5, .inl (cf5, 3002, .inl f5))]) [0, 4] rfl
      have hDc := hD.sub (ws' := [(h0, .inr (13, zs)), (qf5, .inl (cf5, 3002, .inl f5))]) [0, 4] (by decide) rfl
      have hKc := hK.sub (tys' := [(cf5, .int)]) [3] rfl
      have hFc := va_free (wc := [(h0, .inr (13, zs)), (qf5, .inl (cf5, 3002, .inl f5))]) hD hS hA [0, 4] rfl
      refine va_callv (va_runV (As := [.int 6, .int (f12 ((f14 (a1 : Int32).toNatClampNeg) : Int32).toNatClampNeg)]) (rest := []) ⟨hx, hb, hml, hown, hts⟩ (tm_wrong l dC dI H.size h0 zs 6 ((f12 ((f14 (a1 : Int32).toNatClampNeg) : Int32).toNatClampNeg)) qf5 v9 v10 cf5 f5 nf u1_0 u1_1 hlen hf5 hf9 hf10 hu_1) (cwV 2 hts gv_h5_0 rfl rfl rfl (by decide +kernel) ⟨Nat.le_of_ble_eq_true rfl, Nat.le_of_ble_eq_true rfl⟩) ⟨fun a U g mk q => by obtain ⟨q0, q1, qP, qK, qD⟩ := q; exact ⟨q0, q1, qP, va_K.moved (u := U) (U := U.calling g mk a) (Vm.Alike.refl U.vm) qK, qD⟩, va_recv hKc hPc (ci := 13) (q0 := 0) rfl rfl, fun U hU hW => ⟨rfl, by rw [hU], by rw [hU]; exact hPc, va_K.moved hW.alike hKc, hDc.weaken (fun _ _ _ _ => trivial)⟩⟩ rfl rfl hl.1 rfl (lv_room (Nat.le_of_ble_eq_true rfl)) dX13_led_40 ⟨Nat.le_of_ble_eq_true rfl, Nat.le_of_ble_eq_true rfl⟩) hS (fun q _ h => hFc q h) hFc ?_
      clear hS
      intro u t H1 locs ht hvm hw hB hz1 hk1 hS
      obtain ⟨z_1, rfl⟩ : ∃ z, z = u := ⟨_, rfl⟩
      obtain ⟨hP1, hK1, hD1⟩ := hB
      rw [ht] at hP1
      have hK1 := va_K.moved hvm.symm hK1
      try dsimp only at hw
      have hPD := va_join (wr := [(qf14, .inl (cf14, 9000, .inl f14)), (qf18, .inl (cf18, 9000, .inl f18)), (qf12, .inl (cf12, 9000, .inl f12))]) (w1 := [(h0, .inr (13, z_1)), (qf5, .inl (cf5, 3002, .inl f5))]) hP hD [0, 4] [1, 2, 3] rfl rfl (by decide) (by decide) hk1 hFc hP1 hD1
      clear hP hD
      obtain ⟨hP, hD⟩ := hPD
      replace hK := (hK.sub (tys' := [(cf14, .int), (cf18, .int), (cf12, .int)]) [0, 1, 2] rfl).app hK1
      clear hPc hDc hKc hFc hP1 hK1 hD1 hz1 hk1 ht hvm
      generalize H1 = H at hP hS ⊢
      replace hP : va_P (dC, dI) vwCl [(qf14, .inl (cf14, 9000, .inl f14)), (qf18, .inl (cf18, 9000, .inl f18)), (qf12, .inl (cf12, 9000, .inl f12)), (h0, .inr (13, z_1)), (qf5, .inl (cf5, 3002, .inl f5))] H := hP
      replace hD : va_D A [(qf14, .inl (cf14, 9000, .inl f14)), (qf18, .inl (cf18, 9000, .inl f18)), (qf12, .inl (cf12, 9000, .inl f12)), (h0, .inr (13, z_1)), (qf5, .inl (cf5, 3002, .inl f5))] := hD
      replace hK : va_K (dC, dI) vwCl [(cf14, .int), (cf18, .int), (cf12, .int), (cf5, .int)] s := hK
      obtain ⟨hwa_1, hln_1, hre_1, hch_1_10, hch_1_9⟩ := hw
      have hfk_1_5 : z_1[5]? = some (.ref qf5) := (hre_1 5 (by decide) (by decide)).trans (hf5)
      have hfk_1_12 : z_1[12]? = some (.ref qf12) := (hre_1 12 (by decide) (by decide)).trans (hf12)
      have hfk_1_14 : z_1[14]? = some (.ref qf14) := (hre_1 14 (by decide) (by decide)).trans (hf14)
      have hfk_1_18 : z_1[18]? = some (.ref qf18) := (hre_1 18 (by decide) (by decide)).trans (hf18)
      have hrq_1 : ∀ j : Nat, j ≠ 10 → j ≠ 9 → z_1[j]? = zs[j]? := fun j g10 g9 => (hre_1 j g10 g9).trans (hrs0 j g10 g9)
      refine lv_iload_n hx hb dX13_led_43 rfl (lv_at hl 0 rfl) ?_
      have hr0 := Option.some.inj hsp
      clear hsp
      obtain ⟨hq0, hr1⟩ := Prod.mk.inj hr0
      clear hr0
      obtain ⟨hq1, hr2⟩ := Prod.mk.inj hr1
      clear hr1
      subst hq0
      subst hq1
      subst hr2
      have hP9 := hP.sub (ws' := [(h0, .inr (13, z_1)), (qf14, .inl (cf14, 9000, .inl f14)), (qf18, .inl (cf18, 9000, .inl f18)), (qf12, .inl (cf12, 9000, .inl f12)), (qf5, .inl (cf5, 3002, .inl f5))]) [3, 0, 1, 2, 4] rfl
      have hD9 := hD.sub (ws' := [(h0, .inr (13, z_1)), (qf14, .inl (cf14, 9000, .inl f14)), (qf18, .inl (cf18, 9000, .inl f18)), (qf12, .inl (cf12, 9000, .inl f12)), (qf5, .inl (cf5, 3002, .inl f5))]) [3, 0, 1, 2, 4] (by decide) rfl
      have hK9 := hK.sub (tys' := [(cf14, .int), (cf18, .int), (cf12, .int), (cf5, .int)]) [0, 1, 2, 3] rfl
      exact W.iret hx hb hr (fun t ht hW => ⟨⟨((f18 ((f14 (a1 : Int32).toNatClampNeg) : Int32).toNatClampNeg)), (z_1), rfl, ⟨rfl, hln_1, hrq_1, hch_1_10, hch_1_9⟩, by rw [ht]; exact hP9, va_K.moved hW.alike hK9, hD9⟩, hS.F ht⟩) hS.2.2 dX13_led_44
  · rw [if_neg c_1] at hsp
    refine lv_iconst (v := 0) hx hb dX13_led_7 (by decide) ?_
    have hr0 := Option.some.inj hsp
    clear hsp
    obtain ⟨hq0, hr1⟩ := Prod.mk.inj hr0
    clear hr0
    obtain ⟨hq1, hr2⟩ := Prod.mk.inj hr1
    clear hr1
    subst hq0
    subst hq1
    subst hr2
    have hP9 := hP.sub (ws' := [(h0, .inr (13, zs)), (qf14, .inl (cf14, 9000, .inl f14)), (qf18, .inl (cf18, 9000, .inl f18)), (qf12, .inl (cf12, 9000, .inl f12)), (qf5, .inl (cf5, 3002, .inl f5))]) [0, 1, 2, 3, 4] rfl
    have hD9 := hD.sub (ws' := [(h0, .inr (13, zs)), (qf14, .inl (cf14, 9000, .inl f14)), (qf18, .inl (cf18, 9000, .inl f18)), (qf12, .inl (cf12, 9000, .inl f12)), (qf5, .inl (cf5, 3002, .inl f5))]) [0, 1, 2, 3, 4] (by decide) rfl
    have hK9 := hK.sub (tys' := [(cf14, .int), (cf18, .int), (cf12, .int), (cf5, .int)]) [0, 1, 2, 3] rfl
    exact W.iret hx hb hr (fun t ht hW => ⟨⟨(0), (zs), rfl, ⟨rfl, hlen, hrs0, hf10, hf9⟩, by rw [ht]; exact hP9, va_K.moved hW.alike hK9, hD9⟩, hS.F ht⟩) hS.2.2 dX13_led_8
def sp_tm_spell (nf : Nat) (a1 : Int32) (v66 : Int32) (f65 : Nat → Int32) : Option ((Nat → Int32) × Int32) := (if v66 < 0 then none else if 200 ≤ (v66 : Int32).toNatClampNeg then none else (some ((upd f65 (v66 : Int32).toNatClampNeg a1), (v66 + 1))))
set_option maxHeartbeats 4000000 in
set_option maxRecDepth 100000 in
/-- ClassMillModel.spell -/
theorem tm_spell (l : Launch) (dC : Nat → ClassId) (dI : Nat → Nat → Nat) (sz : Nat) (h0 : Nat) (zs : (List Value)) (a1 : Int32) (qf65 : Nat) (v66 : Int32) (cf65 : ClassId) (f65 : (Nat → Int32)) (nf : Nat) (o65 : (Nat → Int32)) (w66 : Int32) (hlen : zs.length = 155) (hf65 : zs[65]? = some (.ref qf65)) (hf66 : zs[66]? = some (.int v66)) (hsp : sp_tm_spell nf a1 v66 f65 = some (o65, w66)) : Met l yX13_spell (.code yX13_spell cX13_spell 2 none :: VS_h5) ({ frames := 0, cells := 0, slots := 0, locals := 0 }) (va_Pc [.ref h0, .int a1] (fun U => U.heap.size = sz ∧ va_P (dC, dI) vwCl [(h0, .inr (13, zs)), (qf65, .inl (cf65, 200, .inl f65))] U.heap ∧ va_K (dC, dI) vwCl [(cf65, .int)] U ∧ va_D (fun _ => True) [(h0, .inr (13, zs)), (qf65, .inl (cf65, 200, .inl f65))])) (va_Qv (fun (u : (List Value)) => match u with | (zo1) => True ∧ zo1.length = 155 ∧ (∀ j : Nat, j ≠ 66 → zo1[j]? = zs[j]?) ∧ zo1[66]? = some (.int w66)) (fun (u : (List Value)) (t : State) => match u with | (zo1) => va_P (dC, dI) vwCl [(h0, .inr (13, zo1)), (qf65, .inl (cf65, 200, .inl o65))] t.heap ∧ va_K (dC, dI) vwCl [(cf65, .int)] t ∧ va_D (va_A [(h0, .inr (13, zs)), (qf65, .inl (cf65, 200, .inl f65))] sz) [(h0, .inr (13, zo1)), (qf65, .inl (cf65, 200, .inl o65))]) (va_A [(h0, .inr (13, zs)), (qf65, .inl (cf65, 200, .inl f65))] sz)) 0 0 (va_A [(h0, .inr (13, zs)), (qf65, .inl (cf65, 200, .inl f65))] sz) := by
  refine Met.ofW (cc := cX13_spell) (maxL := 2) (ret := none) (by decide) rfl ?_
  intro p e s m args below meth c s₁ B hml hv
  obtain ⟨rfl, hsz, hP, hK, hD0⟩ := hv
  have hx := B.exec
  have hb := B.bytes
  have hr := B.returns
  have hts := atoms_spec (ws := (.code yX13_spell cX13_spell 2 none :: VS_h5)) B.pre
  replace hts := fun w (h : w ∈ VS_h5) => hts w (List.mem_cons_of_mem _ h)
  have hown : s.vm.findClass RX13 = some m.cls := findClass_of_methodNamed B.named
  have hlocks := B.notSynchronized
  subst hsz
  have hD := hD0.self (sz := s.heap.size)
  generalize hAe : va_A [(h0, .inr (13, zs)), (qf65, .inl (cf65, 200, .inl f65))] s.heap.size = A at hD  ⊢
  have hA : ∀ q : Nat, s.heap.size ≤ q → A q := fun q h => by rw [← hAe]; exact Or.inr h
  have hP : va_P (dC, dI) vwCl [(h0, .inr (13, zs)), (qf65, .inl (cf65, 200, .inl f65))] s.heap := hP
  have hl := lv_entry ([.ref h0, .int a1]) (n := 2) (Nat.le_of_ble_eq_true rfl)
  rw [lg_entry_eq]
  generalize (lg_sl ([.ref h0, .int a1]) ++ List.replicate (2 - (lg_sl ([.ref h0, .int a1])).length) Slot.unset).toArray = ls at hl ⊢
  have hl : lv_has ls 2 [(0, .ref h0), (1, .int a1)] := hl
  obtain ⟨H, hH⟩ : ∃ H : Heap, s.heap = H := ⟨_, rfl⟩
  rw [hH] at hP ⊢
  have hS : va_S A s.heap H [] := by rw [← hH]; exact va_S.rf
  obtain ⟨locs, hlo⟩ : ∃ locs : List Loc, locs = [] := ⟨_, rfl⟩
  rw [← hlo] at hS ⊢
  have hrs0 : ∀ j : Nat, j ≠ 66 → zs[j]? = zs[j]? := fun _ _  => rfl
  unfold sp_tm_spell at hsp
  refine lv_aload_n hx hb dX13_spell_0 rfl (lv_at hl 0 rfl) ?_
  refine va_get (D := (dC, dI)) (ci := 13) (v := .ref qf65) (C := RX13) (T := TX13) (N := 155) hx hb hts uV_h5_X13 hown hK hP 0 rfl rfl 65 (by decide) (hts (.fieldLink RX13 144 "ClassMillModel" "spelled" "[I") mw_h5_39) (fun _ h9 => h9) hf65 dX13_spell_1 ?_
  refine lv_aload_n hx hb dX13_spell_4 rfl (lv_at hl 0 rfl) ?_
  refine va_get (D := (dC, dI)) (ci := 13) (v := .int v66) (C := RX13) (T := TX13) (N := 155) hx hb hts uV_h5_X13 hown hK hP 0 rfl rfl 66 (by decide) (hts (.fieldLink RX13 590 "ClassMillModel" "spells" "I") mw_h5_40) (fun _ h9 => h9) hf66 dX13_spell_5 ?_
  refine lv_iload_n hx hb dX13_spell_8 rfl (lv_at hl 1 rfl) ?_
  obtain ⟨hi_1, hsp⟩ := ox_in hsp
  refine va_iast hx hb hK hP hD hS 1 0 rfl rfl (i := v66) (x := a1) hi_1 dX13_spell_9 ?_
  clear hP hD hS
  intro H locs hP hD hS
  replace hP : va_P (dC, dI) vwCl [(h0, .inr (13, zs)), (qf65, .inl (cf65, 200, .inl (upd f65 (v66 : Int32).toNatClampNeg a1)))] H := hP
  replace hD : va_D A [(h0, .inr (13, zs)), (qf65, .inl (cf65, 200, .inl (upd f65 (v66 : Int32).toNatClampNeg a1)))] := hD
  refine lv_aload_n hx hb dX13_spell_10 rfl (lv_at hl 0 rfl) ?_
  refine lv_dup hx hb dX13_spell_11 rfl ?_
  refine va_get (D := (dC, dI)) (ci := 13) (v := .int v66) (C := RX13) (T := TX13) (N := 155) hx hb hts uV_h5_X13 hown hK hP 0 rfl rfl 66 (by decide) (hts (.fieldLink RX13 590 "ClassMillModel" "spells" "I") mw_h5_40) (fun _ h9 => h9) hf66 dX13_spell_12 ?_
  refine lv_iconst (v := 1) hx hb dX13_spell_15 (by decide) ?_
  refine lv_iadd hx hb dX13_spell_16 ?_
  refine va_put (D := (dC, dI)) (ci := 13) (v := .int (v66 + 1)) (ty := .int) (C := RX13) (T := TX13) (N := 155) hx hb hts uV_h5_X13 tyX13 tyX13_ok nmX13 hown hK hP hD hS 0 rfl rfl 66 (by decide) (hts (.fieldLink RX13 590 "ClassMillModel" "spells" "I") mw_h5_40) (fun _ h9 => h9) rfl (by decide +kernel) rfl rfl (by rw [hlen]; decide) dX13_spell_17 ?_
  clear hP hD hS
  intro H locs hP hD hS
  obtain ⟨fs_2, efs_2⟩ : ∃ zf : List Value, zf = zs.set 66 (.int (v66 + 1)) := ⟨_, rfl⟩
  rw [← efs_2] at hP hD
  have hlfs_2 : fs_2.length = 155 := by rw [efs_2, List.length_set]; exact hlen
  have hfs_2_65 : fs_2[65]? = some (.ref qf65) := by rw [efs_2, List.getElem?_set_ne (by decide)]; exact hf65
  have hfs_2_66 : fs_2[66]? = some (.int (v66 + 1)) := by rw [efs_2, List.getElem?_set_self (by rw [hlen]; decide)]
  replace hP : va_P (dC, dI) vwCl [(h0, .inr (13, fs_2)), (qf65, .inl (cf65, 200, .inl (upd f65 (v66 : Int32).toNatClampNeg a1)))] H := hP
  replace hD : va_D A [(h0, .inr (13, fs_2)), (qf65, .inl (cf65, 200, .inl (upd f65 (v66 : Int32).toNatClampNeg a1)))] := hD
  have hrs_3 : ∀ j : Nat, j ≠ 66 → fs_2[j]? = zs[j]? := fun j g66 => ((congrArg (fun z : List Value => z[j]?) efs_2).trans (List.getElem?_set_ne (Ne.symm g66))).trans (hrs0 j g66)
  have hr0 := Option.some.inj hsp
  clear hsp
  obtain ⟨hq0, hr1⟩ := Prod.mk.inj hr0
  clear hr0
  subst hq0
  subst hr1
  have hP9 := hP.sub (ws' := [(h0, .inr (13, fs_2)), (qf65, .inl (cf65, 200, .inl (upd f65 (v66 : Int32).toNatClampNeg a1)))]) [0, 1] rfl
  have hD9 := hD.sub (ws' := [(h0, .inr (13, fs_2)), (qf65, .inl (cf65, 200, .inl (upd f65 (v66 : Int32).toNatClampNeg a1)))]) [0, 1] (by decide) rfl
  have hK9 := hK.sub (tys' := [(cf65, .int)]) [0] rfl
  exact W.vret hx hb hr (fun t ht hW => ⟨⟨(fs_2), rfl, ⟨trivial, hlfs_2, hrs_3, hfs_2_66⟩, by rw [ht]; exact hP9, va_K.moved hW.alike hK9, hD9⟩, hS.F ht⟩) hS.2.2 dX13_spell_20
def sp_tm_put (nf : Nat) (a1 : Int32) (v68 : Int32) (f67 : Nat → Int32) : Option ((Nat → Int32) × Int32) := (if 12000 ≤ v68 then (some (f67, (v68 + 1))) else (if v68 < 0 then none else if 12000 ≤ (v68 : Int32).toNatClampNeg then none else (some ((upd f67 (v68 : Int32).toNatClampNeg (a1 &&& 255)), (v68 + 1)))))
set_option maxHeartbeats 4000000 in
set_option maxRecDepth 100000 in
/-- ClassMillModel.put -/
theorem tm_put (l : Launch) (dC : Nat → ClassId) (dI : Nat → Nat → Nat) (sz : Nat) (h0 : Nat) (zs : (List Value)) (a1 : Int32) (qf67 : Nat) (v68 : Int32) (cf67 : ClassId) (f67 : (Nat → Int32)) (nf : Nat) (o67 : (Nat → Int32)) (w68 : Int32) (hlen : zs.length = 155) (hf67 : zs[67]? = some (.ref qf67)) (hf68 : zs[68]? = some (.int v68)) (hsp : sp_tm_put nf a1 v68 f67 = some (o67, w68)) : Met l yX13_put (.code yX13_put cX13_put 2 none :: VS_h5) ({ frames := 0, cells := 0, slots := 0, locals := 0 }) (va_Pc [.ref h0, .int a1] (fun U => U.heap.size = sz ∧ va_P (dC, dI) vwCl [(h0, .inr (13, zs)), (qf67, .inl (cf67, 12000, .inl f67))] U.heap ∧ va_K (dC, dI) vwCl [(cf67, .int)] U ∧ va_D (fun _ => True) [(h0, .inr (13, zs)), (qf67, .inl (cf67, 12000, .inl f67))])) (va_Qv (fun (u : (List Value)) => match u with | (zo1) => True ∧ zo1.length = 155 ∧ (∀ j : Nat, j ≠ 68 → zo1[j]? = zs[j]?) ∧ zo1[68]? = some (.int w68)) (fun (u : (List Value)) (t : State) => match u with | (zo1) => va_P (dC, dI) vwCl [(h0, .inr (13, zo1)), (qf67, .inl (cf67, 12000, .inl o67))] t.heap ∧ va_K (dC, dI) vwCl [(cf67, .int)] t ∧ va_D (va_A [(h0, .inr (13, zs)), (qf67, .inl (cf67, 12000, .inl f67))] sz) [(h0, .inr (13, zo1)), (qf67, .inl (cf67, 12000, .inl o67))]) (va_A [(h0, .inr (13, zs)), (qf67, .inl (cf67, 12000, .inl f67))] sz)) 0 0 (va_A [(h0, .inr (13, zs)), (qf67, .inl (cf67, 12000, .inl f67))] sz) := by
  refine Met.ofW (cc := cX13_put) (maxL := 2) (ret := none) (by decide) rfl ?_
  intro p e s m args below meth c s₁ B hml hv
  obtain ⟨rfl, hsz, hP, hK, hD0⟩ := hv
  have hx := B.exec
  have hb := B.bytes
  have hr := B.returns
  have hts := atoms_spec (ws := (.code yX13_put cX13_put 2 none :: VS_h5)) B.pre
  replace hts := fun w (h : w ∈ VS_h5) => hts w (List.mem_cons_of_mem _ h)
  have hown : s.vm.findClass RX13 = some m.cls := findClass_of_methodNamed B.named
  have hlocks := B.notSynchronized
  subst hsz
  have hD := hD0.self (sz := s.heap.size)
  generalize hAe : va_A [(h0, .inr (13, zs)), (qf67, .inl (cf67, 12000, .inl f67))] s.heap.size = A at hD  ⊢
  have hA : ∀ q : Nat, s.heap.size ≤ q → A q := fun q h => by rw [← hAe]; exact Or.inr h
  have hP : va_P (dC, dI) vwCl [(h0, .inr (13, zs)), (qf67, .inl (cf67, 12000, .inl f67))] s.heap := hP
  have hl := lv_entry ([.ref h0, .int a1]) (n := 2) (Nat.le_of_ble_eq_true rfl)
  rw [lg_entry_eq]
  generalize (lg_sl ([.ref h0, .int a1]) ++ List.replicate (2 - (lg_sl ([.ref h0, .int a1])).length) Slot.unset).toArray = ls at hl ⊢
  have hl : lv_has ls 2 [(0, .ref h0), (1, .int a1)] := hl
  obtain ⟨H, hH⟩ : ∃ H : Heap, s.heap = H := ⟨_, rfl⟩
  rw [hH] at hP ⊢
  have hS : va_S A s.heap H [] := by rw [← hH]; exact va_S.rf
  obtain ⟨locs, hlo⟩ : ∃ locs : List Loc, locs = [] := ⟨_, rfl⟩
  rw [← hlo] at hS ⊢
  have hrs0 : ∀ j : Nat, j ≠ 68 → zs[j]? = zs[j]? := fun _ _  => rfl
  unfold sp_tm_put at hsp
  refine lv_aload_n hx hb dX13_put_0 rfl (lv_at hl 0 rfl) ?_
  refine va_get (D := (dC, dI)) (ci := 13) (v := .int v68) (C := RX13) (T := TX13) (N := 155) hx hb hts uV_h5_X13 hown hK hP 0 rfl rfl 68 (by decide) (hts (.fieldLink RX13 627 "ClassMillModel" "length" "I") mw_h5_44) (fun _ h9 => h9) hf68 dX13_put_1 ?_
  refine lv_sipush (v := 12000) hx hb dX13_put_4 (by decide) ?_
  refine lv_icmp_ge (tgt := 24) hx hb dX13_put_7 (by decide) (fun c_1 => ?_) (fun c_1 => ?_)
  · rw [if_pos c_1] at hsp
    refine lv_aload_n hx hb dX13_put_24 rfl (lv_at hl 0 rfl) ?_
    refine lv_dup hx hb dX13_put_25 rfl ?_
    refine va_get (D := (dC, dI)) (ci := 13) (v := .int v68) (C := RX13) (T := TX13) (N := 155) hx hb hts uV_h5_X13 hown hK hP 0 rfl rfl 68 (by decide) (hts (.fieldLink RX13 627 "ClassMillModel" "length" "I") mw_h5_44) (fun _ h9 => h9) hf68 dX13_put_26 ?_
    refine lv_iconst (v := 1) hx hb dX13_put_29 (by decide) ?_
    refine lv_iadd hx hb dX13_put_30 ?_
    refine va_put (D := (dC, dI)) (ci := 13) (v := .int (v68 + 1)) (ty := .int) (C := RX13) (T := TX13) (N := 155) hx hb hts uV_h5_X13 tyX13 tyX13_ok nmX13 hown hK hP hD hS 0 rfl rfl 68 (by decide) (hts (.fieldLink RX13 627 "ClassMillModel" "length" "I") mw_h5_44) (fun _ h9 => h9) rfl (by decide +kernel) rfl rfl (by rw [hlen]; decide) dX13_put_31 ?_
    clear hP hD hS
    intro H locs hP hD hS
    obtain ⟨fs_2, efs_2⟩ : ∃ zf : List Value, zf = zs.set 68 (.int (v68 + 1)) := ⟨_, rfl⟩
    rw [← efs_2] at hP hD
    have hlfs_2 : fs_2.length = 155 := by rw [efs_2, List.length_set]; exact hlen
    have hfs_2_67 : fs_2[67]? = some (.ref qf67) := by rw [efs_2, List.getElem?_set_ne (by decide)]; exact hf67
    have hfs_2_68 : fs_2[68]? = some (.int (v68 + 1)) := by rw [efs_2, List.getElem?_set_self (by rw [hlen]; decide)]
    replace hP : va_P (dC, dI) vwCl [(h0, .inr (13, fs_2)), (qf67, .inl (cf67, 12000, .inl f67))] H := hP
    replace hD : va_D A [(h0, .inr (13, fs_2)), (qf67, .inl (cf67, 12000, .inl f67))] := hD
    have hrs_3 : ∀ j : Nat, j ≠ 68 → fs_2[j]? = zs[j]? := fun j g68 => ((congrArg (fun z : List Value => z[j]?) efs_2).trans (List.getElem?_set_ne (Ne.symm g68))).trans (hrs0 j g68)
    have hr0 := Option.some.inj hsp
    clear hsp
    obtain ⟨hq0, hr1⟩ := Prod.mk.inj hr0
    clear hr0
    subst hq0
    subst hr1
    have hP9 := hP.sub (ws' := [(h0, .inr (13, fs_2)), (qf67, .inl (cf67, 12000, .inl f67))]) [0, 1] rfl
    have hD9 := hD.sub (ws' := [(h0, .inr (13, fs_2)), (qf67, .inl (cf67, 12000, .inl f67))]) [0, 1] (by decide) rfl
    have hK9 := hK.sub (tys' := [(cf67, .int)]) [0] rfl
    exact W.vret hx hb hr (fun t ht hW => ⟨⟨(fs_2), rfl, ⟨trivial, hlfs_2, hrs_3, hfs_2_68⟩, by rw [ht]; exact hP9, va_K.moved hW.alike hK9, hD9⟩, hS.F ht⟩) hS.2.2 dX13_put_34
  · rw [if_neg c_1] at hsp
    refine lv_aload_n hx hb dX13_put_10 rfl (lv_at hl 0 rfl) ?_
    refine va_get (D := (dC, dI)) (ci := 13) (v := .ref qf67) (C := RX13) (T := TX13) (N := 155) hx hb hts uV_h5_X13 hown hK hP 0 rfl rfl 67 (by decide) (hts (.fieldLink RX13 147 "ClassMillModel" "code" "[I") mw_h5_45) (fun _ h9 => h9) hf67 dX13_put_11 ?_
    refine lv_aload_n hx hb dX13_put_14 rfl (lv_at hl 0 rfl) ?_
    refine va_get (D := (dC, dI)) (ci := 13) (v := .int v68) (C := RX13) (T := TX13) (N := 155) hx hb hts uV_h5_X13 hown hK hP 0 rfl rfl 68 (by decide) (hts (.fieldLink RX13 627 "ClassMillModel" "length" "I") mw_h5_44) (fun _ h9 => h9) hf68 dX13_put_15 ?_
    refine lv_iload_n hx hb dX13_put_18 rfl (lv_at hl 1 rfl) ?_
    refine lv_sipush (v := 255) hx hb dX13_put_19 (by decide) ?_
    refine lv_iand hx hb dX13_put_22 ?_
    obtain ⟨hi_4, hsp⟩ := ox_in hsp
    refine va_iast hx hb hK hP hD hS 1 0 rfl rfl (i := v68) (x := (a1 &&& 255)) hi_4 dX13_put_23 ?_
    clear hP hD hS
    intro H locs hP hD hS
    replace hP : va_P (dC, dI) vwCl [(h0, .inr (13, zs)), (qf67, .inl (cf67, 12000, .inl (upd f67 (v68 : Int32).toNatClampNeg (a1 &&& 255))))] H := hP
    replace hD : va_D A [(h0, .inr (13, zs)), (qf67, .inl (cf67, 12000, .inl (upd f67 (v68 : Int32).toNatClampNeg (a1 &&& 255))))] := hD
    refine lv_aload_n hx hb dX13_put_24 rfl (lv_at hl 0 rfl) ?_
    refine lv_dup hx hb dX13_put_25 rfl ?_
    refine va_get (D := (dC, dI)) (ci := 13) (v := .int v68) (C := RX13) (T := TX13) (N := 155) hx hb hts uV_h5_X13 hown hK hP 0 rfl rfl 68 (by decide) (hts (.fieldLink RX13 627 "ClassMillModel" "length" "I") mw_h5_44) (fun _ h9 => h9) hf68 dX13_put_26 ?_
    refine lv_iconst (v := 1) hx hb dX13_put_29 (by decide) ?_
    refine lv_iadd hx hb dX13_put_30 ?_
    refine va_put (D := (dC, dI)) (ci := 13) (v := .int (v68 + 1)) (ty := .int) (C := RX13) (T := TX13) (N := 155) hx hb hts uV_h5_X13 tyX13 tyX13_ok nmX13 hown hK hP hD hS 0 rfl rfl 68 (by decide) (hts (.fieldLink RX13 627 "ClassMillModel" "length" "I") mw_h5_44) (fun _ h9 => h9) rfl (by decide +kernel) rfl rfl (by rw [hlen]; decide) dX13_put_31 ?_
    clear hP hD hS
    intro H locs hP hD hS
    obtain ⟨fs_5, efs_5⟩ : ∃ zf : List Value, zf = zs.set 68 (.int (v68 + 1)) := ⟨_, rfl⟩
    rw [← efs_5] at hP hD
    have hlfs_5 : fs_5.length = 155 := by rw [efs_5, List.length_set]; exact hlen
    have hfs_5_67 : fs_5[67]? = some (.ref qf67) := by rw [efs_5, List.getElem?_set_ne (by decide)]; exact hf67
    have hfs_5_68 : fs_5[68]? = some (.int (v68 + 1)) := by rw [efs_5, List.getElem?_set_self (by rw [hlen]; decide)]
    replace hP : va_P (dC, dI) vwCl [(h0, .inr (13, fs_5)), (qf67, .inl (cf67, 12000, .inl (upd f67 (v68 : Int32).toNatClampNeg (a1 &&& 255))))] H := hP
    replace hD : va_D A [(h0, .inr (13, fs_5)), (qf67, .inl (cf67, 12000, .inl (upd f67 (v68 : Int32).toNatClampNeg (a1 &&& 255))))] := hD
    have hrs_6 : ∀ j : Nat, j ≠ 68 → fs_5[j]? = zs[j]? := fun j g68 => ((congrArg (fun z : List Value => z[j]?) efs_5).trans (List.getElem?_set_ne (Ne.symm g68))).trans (hrs0 j g68)
    have hr0 := Option.some.inj hsp
    clear hsp
    obtain ⟨hq0, hr1⟩ := Prod.mk.inj hr0
    clear hr0
    subst hq0
    subst hr1
    have hP9 := hP.sub (ws' := [(h0, .inr (13, fs_5)), (qf67, .inl (cf67, 12000, .inl (upd f67 (v68 : Int32).toNatClampNeg (a1 &&& 255))))]) [0, 1] rfl
    have hD9 := hD.sub (ws' := [(h0, .inr (13, fs_5)), (qf67, .inl (cf67, 12000, .inl (upd f67 (v68 : Int32).toNatClampNeg (a1 &&& 255))))]) [0, 1] (by decide) rfl
    have hK9 := hK.sub (tys' := [(cf67, .int)]) [0] rfl
    exact W.vret hx hb hr (fun t ht hW => ⟨⟨(fs_5), rfl, ⟨trivial, hlfs_5, hrs_6, hfs_5_68⟩, by rw [ht]; exact hP9, va_K.moved hW.alike hK9, hD9⟩, hS.F ht⟩) hS.2.2 dX13_put_34
def sp_tm_push (nf : Nat) (a1 : Int32) (v70 : Int32) (v71 : Int32) (f69 : Nat → Int32) : Option ((Nat → Int32) × Int32 × Int32) := (if v70 < 0 then none else if 3000 ≤ (v70 : Int32).toNatClampNeg then none else (some ((upd f69 (v70 : Int32).toNatClampNeg a1), (v70 + 1), (if v71 < (v70 + 1) then (v70 + 1) else v71))))
set_option maxHeartbeats 4000000 in
set_option maxRecDepth 100000 in
/-- ClassMillModel.push -/
theorem tm_push (l : Launch) (dC : Nat → ClassId) (dI : Nat → Nat → Nat) (sz : Nat) (h0 : Nat) (zs : (List Value)) (a1 : Int32) (qf69 : Nat) (v70 : Int32) (v71 : Int32) (cf69 : ClassId) (f69 : (Nat → Int32)) (nf : Nat) (o69 : (Nat → Int32)) (w70 : Int32) (w71 : Int32) (hlen : zs.length = 155) (hf69 : zs[69]? = some (.ref qf69)) (hf70 : zs[70]? = some (.int v70)) (hf71 : zs[71]? = some (.int v71)) (hsp : sp_tm_push nf a1 v70 v71 f69 = some (o69, w70, w71)) : Met l yX13_push (.code yX13_push cX13_push 2 none :: VS_h5) ({ frames := 1, cells := 0, slots := 0, locals := 15 }) (va_Pc [.ref h0, .int a1] (fun U => U.heap.size = sz ∧ va_P (dC, dI) vwCl [(h0, .inr (13, zs)), (qf69, .inl (cf69, 3000, .inl f69))] U.heap ∧ va_K (dC, dI) vwCl [(cf69, .int)] U ∧ va_D (fun _ => True) [(h0, .inr (13, zs)), (qf69, .inl (cf69, 3000, .inl f69))])) (va_Qv (fun (u : (List Value)) => match u with | (zo1) => True ∧ zo1.length = 155 ∧ (∀ j : Nat, j ≠ 70 → j ≠ 71 → zo1[j]? = zs[j]?) ∧ zo1[70]? = some (.int w70) ∧ zo1[71]? = some (.int w71)) (fun (u : (List Value)) (t : State) => match u with | (zo1) => va_P (dC, dI) vwCl [(h0, .inr (13, zo1)), (qf69, .inl (cf69, 3000, .inl o69))] t.heap ∧ va_K (dC, dI) vwCl [(cf69, .int)] t ∧ va_D (va_A [(h0, .inr (13, zs)), (qf69, .inl (cf69, 3000, .inl f69))] sz) [(h0, .inr (13, zo1)), (qf69, .inl (cf69, 3000, .inl o69))]) (va_A [(h0, .inr (13, zs)), (qf69, .inl (cf69, 3000, .inl f69))] sz)) 0 0 (va_A [(h0, .inr (13, zs)), (qf69, .inl (cf69, 3000, .inl f69))] sz) := by
  refine Met.ofW (cc := cX13_push) (maxL := 2) (ret := none) (by decide) rfl ?_
  intro p e s m args below meth c s₁ B hml hv
  obtain ⟨rfl, hsz, hP, hK, hD0⟩ := hv
  have hx := B.exec
  have hb := B.bytes
  have hr := B.returns
  have hts := atoms_spec (ws := (.code yX13_push cX13_push 2 none :: VS_h5)) B.pre
  replace hts := fun w (h : w ∈ VS_h5) => hts w (List.mem_cons_of_mem _ h)
  have hown : s.vm.findClass RX13 = some m.cls := findClass_of_methodNamed B.named
  have hlocks := B.notSynchronized
  subst hsz
  have hD := hD0.self (sz := s.heap.size)
  generalize hAe : va_A [(h0, .inr (13, zs)), (qf69, .inl (cf69, 3000, .inl f69))] s.heap.size = A at hD  ⊢
  have hA : ∀ q : Nat, s.heap.size ≤ q → A q := fun q h => by rw [← hAe]; exact Or.inr h
  have hP : va_P (dC, dI) vwCl [(h0, .inr (13, zs)), (qf69, .inl (cf69, 3000, .inl f69))] s.heap := hP
  have hl := lv_entry ([.ref h0, .int a1]) (n := 2) (Nat.le_of_ble_eq_true rfl)
  rw [lg_entry_eq]
  generalize (lg_sl ([.ref h0, .int a1]) ++ List.replicate (2 - (lg_sl ([.ref h0, .int a1])).length) Slot.unset).toArray = ls at hl ⊢
  have hl : lv_has ls 2 [(0, .ref h0), (1, .int a1)] := hl
  obtain ⟨H, hH⟩ : ∃ H : Heap, s.heap = H := ⟨_, rfl⟩
  rw [hH] at hP ⊢
  have hS : va_S A s.heap H [] := by rw [← hH]; exact va_S.rf
  obtain ⟨locs, hlo⟩ : ∃ locs : List Loc, locs = [] := ⟨_, rfl⟩
  rw [← hlo] at hS ⊢
  have hrs0 : ∀ j : Nat, j ≠ 70 → j ≠ 71 → zs[j]? = zs[j]? := fun _ _ _  => rfl
  unfold sp_tm_push at hsp
  refine lv_aload_n hx hb dX13_push_0 rfl (lv_at hl 0 rfl) ?_
  refine va_get (D := (dC, dI)) (ci := 13) (v := .ref qf69) (C := RX13) (T := TX13) (N := 155) hx hb hts uV_h5_X13 hown hK hP 0 rfl rfl 69 (by decide) (hts (.fieldLink RX13 150 "ClassMillModel" "pile" "[I") mw_h5_46) (fun _ h9 => h9) hf69 dX13_push_1 ?_
  refine lv_aload_n hx hb dX13_push_4 rfl (lv_at hl 0 rfl) ?_
  refine va_get (D := (dC, dI)) (ci := 13) (v := .int v70) (C := RX13) (T := TX13) (N := 155) hx hb hts uV_h5_X13 hown hK hP 0 rfl rfl 70 (by decide) (hts (.fieldLink RX13 629 "ClassMillModel" "piled" "I") mw_h5_47) (fun _ h9 => h9) hf70 dX13_push_5 ?_
  refine lv_iload_n hx hb dX13_push_8 rfl (lv_at hl 1 rfl) ?_
  obtain ⟨hi_1, hsp⟩ := ox_in hsp
  refine va_iast hx hb hK hP hD hS 1 0 rfl rfl (i := v70) (x := a1) hi_1 dX13_push_9 ?_
  clear hP hD hS
  intro H locs hP hD hS
  replace hP : va_P (dC, dI) vwCl [(h0, .inr (13, zs)), (qf69, .inl (cf69, 3000, .inl (upd f69 (v70 : Int32).toNatClampNeg a1)))] H := hP
  replace hD : va_D A [(h0, .inr (13, zs)), (qf69, .inl (cf69, 3000, .inl (upd f69 (v70 : Int32).toNatClampNeg a1)))] := hD
  refine lv_aload_n hx hb dX13_push_10 rfl (lv_at hl 0 rfl) ?_
  refine lv_dup hx hb dX13_push_11 rfl ?_
  refine va_get (D := (dC, dI)) (ci := 13) (v := .int v70) (C := RX13) (T := TX13) (N := 155) hx hb hts uV_h5_X13 hown hK hP 0 rfl rfl 70 (by decide) (hts (.fieldLink RX13 629 "ClassMillModel" "piled" "I") mw_h5_47) (fun _ h9 => h9) hf70 dX13_push_12 ?_
  refine lv_iconst (v := 1) hx hb dX13_push_15 (by decide) ?_
  refine lv_iadd hx hb dX13_push_16 ?_
  refine va_put (D := (dC, dI)) (ci := 13) (v := .int (v70 + 1)) (ty := .int) (C := RX13) (T := TX13) (N := 155) hx hb hts uV_h5_X13 tyX13 tyX13_ok nmX13 hown hK hP hD hS 0 rfl rfl 70 (by decide) (hts (.fieldLink RX13 629 "ClassMillModel" "piled" "I") mw_h5_47) (fun _ h9 => h9) rfl (by decide +kernel) rfl rfl (by rw [hlen]; decide) dX13_push_17 ?_
  clear hP hD hS
  intro H locs hP hD hS
  obtain ⟨fs_2, efs_2⟩ : ∃ zf : List Value, zf = zs.set 70 (.int (v70 + 1)) := ⟨_, rfl⟩
  rw [← efs_2] at hP hD
  have hlfs_2 : fs_2.length = 155 := by rw [efs_2, List.length_set]; exact hlen
  have hfs_2_69 : fs_2[69]? = some (.ref qf69) := by rw [efs_2, List.getElem?_set_ne (by decide)]; exact hf69
  have hfs_2_71 : fs_2[71]? = some (.int v71) := by rw [efs_2, List.getElem?_set_ne (by decide)]; exact hf71
  have hfs_2_70 : fs_2[70]? = some (.int (v70 + 1)) := by rw [efs_2, List.getElem?_set_self (by rw [hlen]; decide)]
  replace hP : va_P (dC, dI) vwCl [(h0, .inr (13, fs_2)), (qf69, .inl (cf69, 3000, .inl (upd f69 (v70 : Int32).toNatClampNeg a1)))] H := hP
  replace hD : va_D A [(h0, .inr (13, fs_2)), (qf69, .inl (cf69, 3000, .inl (upd f69 (v70 : Int32).toNatClampNeg a1)))] := hD
  have hrs_3 : ∀ j : Nat, j ≠ 70 → j ≠ 71 → fs_2[j]? = zs[j]? := fun j g70 g71 => ((congrArg (fun z : List Value => z[j]?) efs_2).trans (List.getElem?_set_ne (Ne.symm g70))).trans (hrs0 j g70 g71)
  refine lv_aload_n hx hb dX13_push_20 rfl (lv_at hl 0 rfl) ?_
  refine lv_aload_n hx hb dX13_push_21 rfl (lv_at hl 0 rfl) ?_
  refine va_get (D := (dC, dI)) (ci := 13) (v := .int v71) (C := RX13) (T := TX13) (N := 155) hx hb hts uV_h5_X13 hown hK hP 0 rfl rfl 71 (by decide) (hts (.fieldLink RX13 632 "ClassMillModel" "pileMost" "I") mw_h5_48) (fun _ h9 => h9) hfs_2_71 dX13_push_22 ?_
  refine lv_aload_n hx hb dX13_push_25 rfl (lv_at hl 0 rfl) ?_
  refine va_get (D := (dC, dI)) (ci := 13) (v := .int (v70 + 1)) (C := RX13) (T := TX13) (N := 155) hx hb hts uV_h5_X13 hown hK hP 0 rfl rfl 70 (by decide) (hts (.fieldLink RX13 629 "ClassMillModel" "piled" "I") mw_h5_47) (fun _ h9 => h9) hfs_2_70 dX13_push_26 ?_
  refine va_mmax hx hb (by rw [hml]; exact hl.1.symm) hown (hts (.methodLink RX13 635 yJ9_max_7cf53) mw_h5_49) (hts (.static yJ9_max_7cf53) mw_h5_50) (hts (.initialized "java/lang/Math") mw_h5_51) (hts (.code yJ9_max_7cf53 cJ9_max_7cf53 2 (some .int)) mw_h5_52) (Nat.le_of_ble_eq_true rfl) (Nat.le_of_ble_eq_true rfl) (Nat.le_of_ble_eq_true rfl) (Nat.le_of_ble_eq_true rfl) dX13_push_29 ?_
  refine va_put (D := (dC, dI)) (ci := 13) (v := .int (if v71 < (v70 + 1) then (v70 + 1) else v71)) (ty := .int) (C := RX13) (T := TX13) (N := 155) hx hb hts uV_h5_X13 tyX13 tyX13_ok nmX13 hown hK hP hD hS 0 rfl rfl 71 (by decide) (hts (.fieldLink RX13 632 "ClassMillModel" "pileMost" "I") mw_h5_48) (fun _ h9 => h9) rfl (by decide +kernel) rfl rfl (by rw [hlfs_2]; decide) dX13_push_32 ?_
  clear hP hD hS
  intro H locs hP hD hS
  obtain ⟨fs_4, efs_4⟩ : ∃ zf : List Value, zf = fs_2.set 71 (.int (if v71 < (v70 + 1) then (v70 + 1) else v71)) := ⟨_, rfl⟩
  rw [← efs_4] at hP hD
  have hlfs_4 : fs_4.length = 155 := by rw [efs_4, List.length_set]; exact hlfs_2
  have hfs_4_69 : fs_4[69]? = some (.ref qf69) := by rw [efs_4, List.getElem?_set_ne (by decide)]; exact hfs_2_69
  have hfs_4_70 : fs_4[70]? = some (.int (v70 + 1)) := by rw [efs_4, List.getElem?_set_ne (by decide)]; exact hfs_2_70
  have hfs_4_71 : fs_4[71]? = some (.int (if v71 < (v70 + 1) then (v70 + 1) else v71)) := by rw [efs_4, List.getElem?_set_self (by rw [hlfs_2]; decide)]
  replace hP : va_P (dC, dI) vwCl [(h0, .inr (13, fs_4)), (qf69, .inl (cf69, 3000, .inl (upd f69 (v70 : Int32).toNatClampNeg a1)))] H := hP
  replace hD : va_D A [(h0, .inr (13, fs_4)), (qf69, .inl (cf69, 3000, .inl (upd f69 (v70 : Int32).toNatClampNeg a1)))] := hD
  have hrs_5 : ∀ j : Nat, j ≠ 70 → j ≠ 71 → fs_4[j]? = zs[j]? := fun j g70 g71 => ((congrArg (fun z : List Value => z[j]?) efs_4).trans (List.getElem?_set_ne (Ne.symm g71))).trans (hrs_3 j g70 g71)
  have hr0 := Option.some.inj hsp
  clear hsp
  obtain ⟨hq0, hr1⟩ := Prod.mk.inj hr0
  clear hr0
  obtain ⟨hq1, hr2⟩ := Prod.mk.inj hr1
  clear hr1
  subst hq0
  subst hq1
  subst hr2
  have hP9 := hP.sub (ws' := [(h0, .inr (13, fs_4)), (qf69, .inl (cf69, 3000, .inl (upd f69 (v70 : Int32).toNatClampNeg a1)))]) [0, 1] rfl
  have hD9 := hD.sub (ws' := [(h0, .inr (13, fs_4)), (qf69, .inl (cf69, 3000, .inl (upd f69 (v70 : Int32).toNatClampNeg a1)))]) [0, 1] (by decide) rfl
  have hK9 := hK.sub (tys' := [(cf69, .int)]) [0] rfl
  exact W.vret hx hb hr (fun t ht hW => ⟨⟨(fs_4), rfl, ⟨trivial, hlfs_4, hrs_5, hfs_4_70, hfs_4_71⟩, by rw [ht]; exact hP9, va_K.moved hW.alike hK9, hD9⟩, hS.F ht⟩) hS.2.2 dX13_push_35
def sp_tm_turn (nf : Nat) (a1 : Int32) (a2 : Int32) (v70 : Int32) (v71 : Int32) (f69 : Nat → Int32) : Option ((Nat → Int32) × Int32 × Int32) := (if a2 = 3 then (some (f69, (v70 - a1), v71)) else ((sp_tm_push nf a2 (v70 - a1) v71 f69).bind (fun p1 => (some (p1.1, p1.2.1, p1.2.2)))))
set_option maxHeartbeats 4000000 in
set_option maxRecDepth 100000 in
/-- ClassMillModel.turn -/
theorem tm_turn (l : Launch) (dC : Nat → ClassId) (dI : Nat → Nat → Nat) (sz : Nat) (h0 : Nat) (zs : (List Value)) (a1 : Int32) (a2 : Int32) (qf69 : Nat) (v70 : Int32) (v71 : Int32) (cf69 : ClassId) (f69 : (Nat → Int32)) (nf : Nat) (o69 : (Nat → Int32)) (w70 : Int32) (w71 : Int32) (hlen : zs.length = 155) (hf69 : zs[69]? = some (.ref qf69)) (hf70 : zs[70]? = some (.int v70)) (hf71 : zs[71]? = some (.int v71)) (hsp : sp_tm_turn nf a1 a2 v70 v71 f69 = some (o69, w70, w71)) : Met l yX13_turn (.code yX13_turn cX13_turn 3 none :: VS_h5) ({ frames := 2, cells := 0, slots := 0, locals := 36 }) (va_Pc [.ref h0, .int a1, .int a2] (fun U => U.heap.size = sz ∧ va_P (dC, dI) vwCl [(h0, .inr (13, zs)), (qf69, .inl (cf69, 3000, .inl f69))] U.heap ∧ va_K (dC, dI) vwCl [(cf69, .int)] U ∧ va_D (fun _ => True) [(h0, .inr (13, zs)), (qf69, .inl (cf69, 3000, .inl f69))])) (va_Qv (fun (u : (List Value)) => match u with | (zo1) => True ∧ zo1.length = 155 ∧ (∀ j : Nat, j ≠ 70 → j ≠ 71 → zo1[j]? = zs[j]?) ∧ zo1[70]? = some (.int w70) ∧ zo1[71]? = some (.int w71)) (fun (u : (List Value)) (t : State) => match u with | (zo1) => va_P (dC, dI) vwCl [(h0, .inr (13, zo1)), (qf69, .inl (cf69, 3000, .inl o69))] t.heap ∧ va_K (dC, dI) vwCl [(cf69, .int)] t ∧ va_D (va_A [(h0, .inr (13, zs)), (qf69, .inl (cf69, 3000, .inl f69))] sz) [(h0, .inr (13, zo1)), (qf69, .inl (cf69, 3000, .inl o69))]) (va_A [(h0, .inr (13, zs)), (qf69, .inl (cf69, 3000, .inl f69))] sz)) 0 0 (va_A [(h0, .inr (13, zs)), (qf69, .inl (cf69, 3000, .inl f69))] sz) := by
  refine Met.ofW (cc := cX13_turn) (maxL := 3) (ret := none) (by decide) rfl ?_
  intro p e s m args below meth c s₁ B hml hv
  obtain ⟨rfl, hsz, hP, hK, hD0⟩ := hv
  have hx := B.exec
  have hb := B.bytes
  have hr := B.returns
  have hts := atoms_spec (ws := (.code yX13_turn cX13_turn 3 none :: VS_h5)) B.pre
  replace hts := fun w (h : w ∈ VS_h5) => hts w (List.mem_cons_of_mem _ h)
  have hown : s.vm.findClass RX13 = some m.cls := findClass_of_methodNamed B.named
  have hlocks := B.notSynchronized
  subst hsz
  have hD := hD0.self (sz := s.heap.size)
  generalize hAe : va_A [(h0, .inr (13, zs)), (qf69, .inl (cf69, 3000, .inl f69))] s.heap.size = A at hD  ⊢
  have hA : ∀ q : Nat, s.heap.size ≤ q → A q := fun q h => by rw [← hAe]; exact Or.inr h
  have hP : va_P (dC, dI) vwCl [(h0, .inr (13, zs)), (qf69, .inl (cf69, 3000, .inl f69))] s.heap := hP
  have hl := lv_entry ([.ref h0, .int a1, .int a2]) (n := 3) (Nat.le_of_ble_eq_true rfl)
  rw [lg_entry_eq]
  generalize (lg_sl ([.ref h0, .int a1, .int a2]) ++ List.replicate (3 - (lg_sl ([.ref h0, .int a1, .int a2])).length) Slot.unset).toArray = ls at hl ⊢
  have hl : lv_has ls 3 [(0, .ref h0), (1, .int a1), (2, .int a2)] := hl
  obtain ⟨H, hH⟩ : ∃ H : Heap, s.heap = H := ⟨_, rfl⟩
  rw [hH] at hP ⊢
  have hS : va_S A s.heap H [] := by rw [← hH]; exact va_S.rf
  obtain ⟨locs, hlo⟩ : ∃ locs : List Loc, locs = [] := ⟨_, rfl⟩
  rw [← hlo] at hS ⊢
  have hrs0 : ∀ j : Nat, j ≠ 70 → j ≠ 71 → zs[j]? = zs[j]? := fun _ _ _  => rfl
  unfold sp_tm_turn at hsp
  refine lv_aload_n hx hb dX13_turn_0 rfl (lv_at hl 0 rfl) ?_
  refine lv_dup hx hb dX13_turn_1 rfl ?_
  refine va_get (D := (dC, dI)) (ci := 13) (v := .int v70) (C := RX13) (T := TX13) (N := 155) hx hb hts uV_h5_X13 hown hK hP 0 rfl rfl 70 (by decide) (hts (.fieldLink RX13 629 "ClassMillModel" "piled" "I") mw_h5_47) (fun _ h9 => h9) hf70 dX13_turn_2 ?_
  refine lv_iload_n hx hb dX13_turn_5 rfl (lv_at hl 1 rfl) ?_
  refine lv_isub hx hb dX13_turn_6 ?_
  refine va_put (D := (dC, dI)) (ci := 13) (v := .int (v70 - a1)) (ty := .int) (C := RX13) (T := TX13) (N := 155) hx hb hts uV_h5_X13 tyX13 tyX13_ok nmX13 hown hK hP hD hS 0 rfl rfl 70 (by decide) (hts (.fieldLink RX13 629 "ClassMillModel" "piled" "I") mw_h5_47) (fun _ h9 => h9) rfl (by decide +kernel) rfl rfl (by rw [hlen]; decide) dX13_turn_7 ?_
  clear hP hD hS
  intro H locs hP hD hS
  obtain ⟨fs_1, efs_1⟩ : ∃ zf : List Value, zf = zs.set 70 (.int (v70 - a1)) := ⟨_, rfl⟩
  rw [← efs_1] at hP hD
  have hlfs_1 : fs_1.length = 155 := by rw [efs_1, List.length_set]; exact hlen
  have hfs_1_69 : fs_1[69]? = some (.ref qf69) := by rw [efs_1, List.getElem?_set_ne (by decide)]; exact hf69
  have hfs_1_71 : fs_1[71]? = some (.int v71) := by rw [efs_1, List.getElem?_set_ne (by decide)]; exact hf71
  have hfs_1_70 : fs_1[70]? = some (.int (v70 - a1)) := by rw [efs_1, List.getElem?_set_self (by rw [hlen]; decide)]
  replace hP : va_P (dC, dI) vwCl [(h0, .inr (13, fs_1)), (qf69, .inl (cf69, 3000, .inl f69))] H := hP
  replace hD : va_D A [(h0, .inr (13, fs_1)), (qf69, .inl (cf69, 3000, .inl f69))] := hD
  have hrs_2 : ∀ j : Nat, j ≠ 70 → j ≠ 71 → fs_1[j]? = zs[j]? := fun j g70 g71 => ((congrArg (fun z : List Value => z[j]?) efs_1).trans (List.getElem?_set_ne (Ne.symm g70))).trans (hrs0 j g70 g71)
  refine lv_iload_n hx hb dX13_turn_10 rfl (lv_at hl 2 rfl) ?_
  refine lv_iconst (v := 3) hx hb dX13_turn_11 (by decide) ?_
  refine lv_icmp_eq (tgt := 20) hx hb dX13_turn_12 (by decide) (fun c_3 => ?_) (fun c_3 => ?_)
  · rw [if_pos c_3] at hsp
    have hr0 := Option.some.inj hsp
    clear hsp
    obtain ⟨hq0, hr1⟩ := Prod.mk.inj hr0
    clear hr0
    obtain ⟨hq1, hr2⟩ := Prod.mk.inj hr1
    clear hr1
    subst hq0
    subst hq1
    subst hr2
    have hP9 := hP.sub (ws' := [(h0, .inr (13, fs_1)), (qf69, .inl (cf69, 3000, .inl f69))]) [0, 1] rfl
    have hD9 := hD.sub (ws' := [(h0, .inr (13, fs_1)), (qf69, .inl (cf69, 3000, .inl f69))]) [0, 1] (by decide) rfl
    have hK9 := hK.sub (tys' := [(cf69, .int)]) [0] rfl
    exact W.vret hx hb hr (fun t ht hW => ⟨⟨(fs_1), rfl, ⟨trivial, hlfs_1, hrs_2, hfs_1_70, hfs_1_71⟩, by rw [ht]; exact hP9, va_K.moved hW.alike hK9, hD9⟩, hS.F ht⟩) hS.2.2 dX13_turn_20
  · rw [if_neg c_3] at hsp
    refine lv_aload_n hx hb dX13_turn_15 rfl (lv_at hl 0 rfl) ?_
    refine lv_iload_n hx hb dX13_turn_16 rfl (lv_at hl 2 rfl) ?_
    obtain ⟨⟨g901_0, u1_1, u1_2⟩, hu_1, hsp⟩ := ox_bind hsp
    try dsimp only at hsp
    have hPc := hP.sub (ws' := [(h0, .inr (13, fs_1)), (qf69, .inl (cf69, 3000, .inl f69))]) [0, 1] rfl
    have hDc := hD.sub (ws' := [(h0, .inr (13, fs_1)), (qf69, .inl (cf69, 3000, .inl f69))]) [0, 1] (by decide) rfl
    have hKc := hK.sub (tys' := [(cf69, .int)]) [0] rfl
    have hFc := va_free (wc := [(h0, .inr (13, fs_1)), (qf69, .inl (cf69, 3000, .inl f69))]) hD hS hA [0, 1] rfl
    refine va_callv (va_runV (As := [.int a2]) (rest := []) ⟨hx, hb, hml, hown, hts⟩ (tm_push l dC dI H.size h0 fs_1 a2 qf69 ((v70 - a1)) v71 cf69 f69 nf g901_0 u1_1 u1_2 hlfs_1 hfs_1_69 hfs_1_70 hfs_1_71 hu_1) (cwV 1 hts gv_h5_5 rfl rfl rfl (by decide +kernel) ⟨Nat.le_of_ble_eq_true rfl, Nat.le_of_ble_eq_true rfl⟩) ⟨fun a U g mk q => by obtain ⟨q0, q1, qP, qK, qD⟩ := q; exact ⟨q0, q1, qP, va_K.moved (u := U) (U := U.calling g mk a) (Vm.Alike.refl U.vm) qK, qD⟩, va_recv hKc hPc (ci := 13) (q0 := 0) rfl rfl, fun U hU hW => ⟨rfl, by rw [hU], by rw [hU]; exact hPc, va_K.moved hW.alike hKc, hDc.weaken (fun _ _ _ _ => trivial)⟩⟩ rfl rfl hl.1 rfl (lv_room (Nat.le_of_ble_eq_true rfl)) dX13_turn_17 ⟨Nat.le_of_ble_eq_true rfl, Nat.le_of_ble_eq_true rfl⟩) hS (fun q _ h => hFc q h) hFc ?_
    clear hS
    intro u t H1 locs ht hvm hw hB hz1 hk1 hS
    obtain ⟨z_1, rfl⟩ : ∃ z, z = u := ⟨_, rfl⟩
    obtain ⟨hP1, hK1, hD1⟩ := hB
    rw [ht] at hP1
    have hK1 := va_K.moved hvm.symm hK1
    try dsimp only at hw
    have hPD := va_join (wr := []) (w1 := [(h0, .inr (13, z_1)), (qf69, .inl (cf69, 3000, .inl g901_0))]) hP hD [0, 1] [] rfl rfl (by decide) (by decide) hk1 hFc hP1 hD1
    clear hP hD
    obtain ⟨hP, hD⟩ := hPD
    replace hK := (hK.sub (tys' := []) [] rfl).app hK1
    clear hPc hDc hKc hFc hP1 hK1 hD1 hz1 hk1 ht hvm
    generalize H1 = H at hP hS ⊢
    replace hP : va_P (dC, dI) vwCl [(h0, .inr (13, z_1)), (qf69, .inl (cf69, 3000, .inl g901_0))] H := hP
    replace hD : va_D A [(h0, .inr (13, z_1)), (qf69, .inl (cf69, 3000, .inl g901_0))] := hD
    replace hK : va_K (dC, dI) vwCl [(cf69, .int)] s := hK
    obtain ⟨hwa_1, hln_1, hre_1, hch_1_70, hch_1_71⟩ := hw
    have hfk_1_69 : z_1[69]? = some (.ref qf69) := (hre_1 69 (by decide) (by decide)).trans (hfs_1_69)
    have hrq_1 : ∀ j : Nat, j ≠ 70 → j ≠ 71 → z_1[j]? = zs[j]? := fun j g70 g71 => (hre_1 j g70 g71).trans (hrs_2 j g70 g71)
    have hr0 := Option.some.inj hsp
    clear hsp
    obtain ⟨hq0, hr1⟩ := Prod.mk.inj hr0
    clear hr0
    obtain ⟨hq1, hr2⟩ := Prod.mk.inj hr1
    clear hr1
    subst hq0
    subst hq1
    subst hr2
    have hP9 := hP.sub (ws' := [(h0, .inr (13, z_1)), (qf69, .inl (cf69, 3000, .inl g901_0))]) [0, 1] rfl
    have hD9 := hD.sub (ws' := [(h0, .inr (13, z_1)), (qf69, .inl (cf69, 3000, .inl g901_0))]) [0, 1] (by decide) rfl
    have hK9 := hK.sub (tys' := [(cf69, .int)]) [0] rfl
    exact W.vret hx hb hr (fun t ht hW => ⟨⟨(z_1), rfl, ⟨trivial, hln_1, hrq_1, hch_1_70, hch_1_71⟩, by rw [ht]; exact hP9, va_K.moved hW.alike hK9, hD9⟩, hS.F ht⟩) hS.2.2 dX13_turn_20
def sp_tm_jump (nf : Nat) (a1 : Int32) (a2 : Int32) (v68 : Int32) (v87 : Int32) (f85 : Nat → Int32) (f86 : Nat → Int32) (f67 : Nat → Int32) : Option ((Nat → Int32) × (Nat → Int32) × (Nat → Int32) × Int32 × Int32) := (if v87 < 0 then none else if 3000 ≤ (v87 : Int32).toNatClampNeg then none else (if v87 < 0 then none else if 3000 ≤ (v87 : Int32).toNatClampNeg then none else ((sp_tm_put nf a1 v68 f67).bind (fun p1 => ((sp_tm_put nf 0 p1.2 p1.1).bind (fun p2 => ((sp_tm_put nf 0 p2.2 p2.1).bind (fun p3 => (some (p3.1, (upd f85 (v87 : Int32).toNatClampNeg v68), (upd f86 (v87 : Int32).toNatClampNeg a2), p3.2, (v87 + 1)))))))))))
set_option maxHeartbeats 4000000 in
set_option maxRecDepth 100000 in
/-- ClassMillModel.jump -/
theorem tm_jump (l : Launch) (dC : Nat → ClassId) (dI : Nat → Nat → Nat) (sz : Nat) (h0 : Nat) (zs : (List Value)) (a1 : Int32) (a2 : Int32) (qf67 : Nat) (v68 : Int32) (qf85 : Nat) (qf86 : Nat) (v87 : Int32) (cf85 : ClassId) (f85 : (Nat → Int32)) (cf86 : ClassId) (f86 : (Nat → Int32)) (cf67 : ClassId) (f67 : (Nat → Int32)) (nf : Nat) (o67 : (Nat → Int32)) (o85 : (Nat → Int32)) (o86 : (Nat → Int32)) (w68 : Int32) (w87 : Int32) (hlen : zs.length = 155) (hf67 : zs[67]? = some (.ref qf67)) (hf68 : zs[68]? = some (.int v68)) (hf85 : zs[85]? = some (.ref qf85)) (hf86 : zs[86]? = some (.ref qf86)) (hf87 : zs[87]? = some (.int v87)) (hsp : sp_tm_jump nf a1 a2 v68 v87 f85 f86 f67 = some (o67, o85, o86, w68, w87)) : Met l yX13_jump (.code yX13_jump cX13_jump 3 none :: VS_h5) ({ frames := 1, cells := 0, slots := 0, locals := 21 }) (va_Pc [.ref h0, .int a1, .int a2] (fun U => U.heap.size = sz ∧ va_P (dC, dI) vwCl [(h0, .inr (13, zs)), (qf85, .inl (cf85, 3000, .inl f85)), (qf86, .inl (cf86, 3000, .inl f86)), (qf67, .inl (cf67, 12000, .inl f67))] U.heap ∧ va_K (dC, dI) vwCl [(cf85, .int), (cf86, .int), (cf67, .int)] U ∧ va_D (fun _ => True) [(h0, .inr (13, zs)), (qf85, .inl (cf85, 3000, .inl f85)), (qf86, .inl (cf86, 3000, .inl f86)), (qf67, .inl (cf67, 12000, .inl f67))])) (va_Qv (fun (u : (List Value)) => match u with | (zo1) => True ∧ zo1.length = 155 ∧ (∀ j : Nat, j ≠ 68 → j ≠ 87 → zo1[j]? = zs[j]?) ∧ zo1[68]? = some (.int w68) ∧ zo1[87]? = some (.int w87)) (fun (u : (List Value)) (t : State) => match u with | (zo1) => va_P (dC, dI) vwCl [(h0, .inr (13, zo1)), (qf85, .inl (cf85, 3000, .inl o85)), (qf86, .inl (cf86, 3000, .inl o86)), (qf67, .inl (cf67, 12000, .inl o67))] t.heap ∧ va_K (dC, dI) vwCl [(cf85, .int), (cf86, .int), (cf67, .int)] t ∧ va_D (va_A [(h0, .inr (13, zs)), (qf85, .inl (cf85, 3000, .inl f85)), (qf86, .inl (cf86, 3000, .inl f86)), (qf67, .inl (cf67, 12000, .inl f67))] sz) [(h0, .inr (13, zo1)), (qf85, .inl (cf85, 3000, .inl o85)), (qf86, .inl (cf86, 3000, .inl o86)), (qf67, .inl (cf67, 12000, .inl o67))]) (va_A [(h0, .inr (13, zs)), (qf85, .inl (cf85, 3000, .inl f85)), (qf86, .inl (cf86, 3000, .inl f86)), (qf67, .inl (cf67, 12000, .inl f67))] sz)) 0 0 (va_A [(h0, .inr (13, zs)), (qf85, .inl (cf85, 3000, .inl f85)), (qf86, .inl (cf86, 3000, .inl f86)), (qf67, .inl (cf67, 12000, .inl f67))] sz) := by
  refine Met.ofW (cc := cX13_jump) (maxL := 3) (ret := none) (by decide) rfl ?_
  intro p e s m args below meth c s₁ B hml hv
  obtain ⟨rfl, hsz, hP, hK, hD0⟩ := hv
  have hx := B.exec
  have hb := B.bytes
  have hr := B.returns
  have hts := atoms_spec (ws := (.code yX13_jump cX13_jump 3 none :: VS_h5)) B.pre
  replace hts := fun w (h : w ∈ VS_h5) => hts w (List.mem_cons_of_mem _ h)
  have hown : s.vm.findClass RX13 = some m.cls := findClass_of_methodNamed B.named
  have hlocks := B.notSynchronized
  subst hsz
  have hD := hD0.self (sz := s.heap.size)
  generalize hAe : va_A [(h0, .inr (13, zs)), (qf85, .inl (cf85, 3000, .inl f85)), (qf86, .inl (cf86, 3000, .inl f86)), (qf67, .inl (cf67, 12000, .inl f67))] s.heap.size = A at hD  ⊢
  have hA : ∀ q : Nat, s.heap.size ≤ q → A q := fun q h => by rw [← hAe]; exact Or.inr h
  have hP : va_P (dC, dI) vwCl [(h0, .inr (13, zs)), (qf85, .inl (cf85, 3000, .inl f85)), (qf86, .inl (cf86, 3000, .inl f86)), (qf67, .inl (cf67, 12000, .inl f67))] s.heap := hP
  have hl := lv_entry ([.ref h0, .int a1, .int a2]) (n := 3) (Nat.le_of_ble_eq_true rfl)
  rw [lg_entry_eq]
  generalize (lg_sl ([.ref h0, .int a1, .int a2]) ++ List.replicate (3 - (lg_sl ([.ref h0, .int a1, .int a2])).length) Slot.unset).toArray = ls at hl ⊢
  have hl : lv_has ls 3 [(0, .ref h0), (1, .int a1), (2, .int a2)] := hl
  obtain ⟨H, hH⟩ : ∃ H : Heap, s.heap = H := ⟨_, rfl⟩
  rw [hH] at hP ⊢
  have hS : va_S A s.heap H [] := by rw [← hH]; exact va_S.rf
  obtain ⟨locs, hlo⟩ : ∃ locs : List Loc, locs = [] := ⟨_, rfl⟩
  rw [← hlo] at hS ⊢
  have hrs0 : ∀ j : Nat, j ≠ 68 → j ≠ 87 → zs[j]? = zs[j]? := fun _ _ _  => rfl
  unfold sp_tm_jump at hsp
  refine lv_aload_n hx hb dX13_jump_0 rfl (lv_at hl 0 rfl) ?_
  refine va_get (D := (dC, dI)) (ci := 13) (v := .ref qf85) (C := RX13) (T := TX13) (N := 155) hx hb hts uV_h5_X13 hown hK hP 0 rfl rfl 85 (by decide) (hts (.fieldLink RX13 181 "ClassMillModel" "jumpAt" "[I") mw_h5_61) (fun _ h9 => h9) hf85 dX13_jump_1 ?_
  refine lv_aload_n hx hb dX13_jump_4 rfl (lv_at hl 0 rfl) ?_
  refine va_get (D := (dC, dI)) (ci := 13) (v := .int v87) (C := RX13) (T := TX13) (N := 155) hx hb hts uV_h5_X13 hown hK hP 0 rfl rfl 87 (by decide) (hts (.fieldLink RX13 643 "ClassMillModel" "jumps" "I") mw_h5_62) (fun _ h9 => h9) hf87 dX13_jump_5 ?_
  refine lv_aload_n hx hb dX13_jump_8 rfl (lv_at hl 0 rfl) ?_
  refine va_get (D := (dC, dI)) (ci := 13) (v := .int v68) (C := RX13) (T := TX13) (N := 155) hx hb hts uV_h5_X13 hown hK hP 0 rfl rfl 68 (by decide) (hts (.fieldLink RX13 627 "ClassMillModel" "length" "I") mw_h5_44) (fun _ h9 => h9) hf68 dX13_jump_9 ?_
  obtain ⟨hi_1, hsp⟩ := ox_in hsp
  refine va_iast hx hb hK hP hD hS 1 0 rfl rfl (i := v87) (x := v68) hi_1 dX13_jump_12 ?_
  clear hP hD hS
  intro H locs hP hD hS
  replace hP : va_P (dC, dI) vwCl [(h0, .inr (13, zs)), (qf85, .inl (cf85, 3000, .inl (upd f85 (v87 : Int32).toNatClampNeg v68))), (qf86, .inl (cf86, 3000, .inl f86)), (qf67, .inl (cf67, 12000, .inl f67))] H := hP
  replace hD : va_D A [(h0, .inr (13, zs)), (qf85, .inl (cf85, 3000, .inl (upd f85 (v87 : Int32).toNatClampNeg v68))), (qf86, .inl (cf86, 3000, .inl f86)), (qf67, .inl (cf67, 12000, .inl f67))] := hD
  refine lv_aload_n hx hb dX13_jump_13 rfl (lv_at hl 0 rfl) ?_
  refine va_get (D := (dC, dI)) (ci := 13) (v := .ref qf86) (C := RX13) (T := TX13) (N := 155) hx hb hts uV_h5_X13 hown hK hP 0 rfl rfl 86 (by decide) (hts (.fieldLink RX13 184 "ClassMillModel" "jumpLabel" "[I") mw_h5_63) (fun _ h9 => h9) hf86 dX13_jump_14 ?_
  refine lv_aload_n hx hb dX13_jump_17 rfl (lv_at hl 0 rfl) ?_
  refine va_get (D := (dC, dI)) (ci := 13) (v := .int v87) (C := RX13) (T := TX13) (N := 155) hx hb hts uV_h5_X13 hown hK hP 0 rfl rfl 87 (by decide) (hts (.fieldLink RX13 643 "ClassMillModel" "jumps" "I") mw_h5_62) (fun _ h9 => h9) hf87 dX13_jump_18 ?_
  refine lv_iload_n hx hb dX13_jump_21 rfl (lv_at hl 2 rfl) ?_
  obtain ⟨hi_2, hsp⟩ := ox_in hsp
  refine va_iast hx hb hK hP hD hS 2 1 rfl rfl (i := v87) (x := a2) hi_2 dX13_jump_22 ?_
  clear hP hD hS
  intro H locs hP hD hS
  replace hP : va_P (dC, dI) vwCl [(h0, .inr (13, zs)), (qf85, .inl (cf85, 3000, .inl (upd f85 (v87 : Int32).toNatClampNeg v68))), (qf86, .inl (cf86, 3000, .inl (upd f86 (v87 : Int32).toNatClampNeg a2))), (qf67, .inl (cf67, 12000, .inl f67))] H := hP
  replace hD : va_D A [(h0, .inr (13, zs)), (qf85, .inl (cf85, 3000, .inl (upd f85 (v87 : Int32).toNatClampNeg v68))), (qf86, .inl (cf86, 3000, .inl (upd f86 (v87 : Int32).toNatClampNeg a2))), (qf67, .inl (cf67, 12000, .inl f67))] := hD
  refine lv_aload_n hx hb dX13_jump_23 rfl (lv_at hl 0 rfl) ?_
  refine lv_dup hx hb dX13_jump_24 rfl ?_
  refine va_get (D := (dC, dI)) (ci := 13) (v := .int v87) (C := RX13) (T := TX13) (N := 155) hx hb hts uV_h5_X13 hown hK hP 0 rfl rfl 87 (by decide) (hts (.fieldLink RX13 643 "ClassMillModel" "jumps" "I") mw_h5_62) (fun _ h9 => h9) hf87 dX13_jump_25 ?_
  refine lv_iconst (v := 1) hx hb dX13_jump_28 (by decide) ?_
  refine lv_iadd hx hb dX13_jump_29 ?_
  refine va_put (D := (dC, dI)) (ci := 13) (v := .int (v87 + 1)) (ty := .int) (C := RX13) (T := TX13) (N := 155) hx hb hts uV_h5_X13 tyX13 tyX13_ok nmX13 hown hK hP hD hS 0 rfl rfl 87 (by decide) (hts (.fieldLink RX13 643 "ClassMillModel" "jumps" "I") mw_h5_62) (fun _ h9 => h9) rfl (by decide +kernel) rfl rfl (by rw [hlen]; decide) dX13_jump_30 ?_
  clear hP hD hS
  intro H locs hP hD hS
  obtain ⟨fs_3, efs_3⟩ : ∃ zf : List Value, zf = zs.set 87 (.int (v87 + 1)) := ⟨_, rfl⟩
  rw [← efs_3] at hP hD
  have hlfs_3 : fs_3.length = 155 := by rw [efs_3, List.length_set]; exact hlen
  have hfs_3_67 : fs_3[67]? = some (.ref qf67) := by rw [efs_3, List.getElem?_set_ne (by decide)]; exact hf67
  have hfs_3_68 : fs_3[68]? = some (.int v68) := by rw [efs_3, List.getElem?_set_ne (by decide)]; exact hf68
  have hfs_3_85 : fs_3[85]? = some (.ref qf85) := by rw [efs_3, List.getElem?_set_ne (by decide)]; exact hf85
  have hfs_3_86 : fs_3[86]? = some (.ref qf86) := by rw [efs_3, List.getElem?_set_ne (by decide)]; exact hf86
  have hfs_3_87 : fs_3[87]? = some (.int (v87 + 1)) := by rw [efs_3, List.getElem?_set_self (by rw [hlen]; decide)]
  replace hP : va_P (dC, dI) vwCl [(h0, .inr (13, fs_3)), (qf85, .inl (cf85, 3000, .inl (upd f85 (v87 : Int32).toNatClampNeg v68))), (qf86, .inl (cf86, 3000, .inl (upd f86 (v87 : Int32).toNatClampNeg a2))), (qf67, .inl (cf67, 12000, .inl f67))] H := hP
  replace hD : va_D A [(h0, .inr (13, fs_3)), (qf85, .inl (cf85, 3000, .inl (upd f85 (v87 : Int32).toNatClampNeg v68))), (qf86, .inl (cf86, 3000, .inl (upd f86 (v87 : Int32).toNatClampNeg a2))), (qf67, .inl (cf67, 12000, .inl f67))] := hD
  have hrs_4 : ∀ j : Nat, j ≠ 68 → j ≠ 87 → fs_3[j]? = zs[j]? := fun j g68 g87 => ((congrArg (fun z : List Value => z[j]?) efs_3).trans (List.getElem?_set_ne (Ne.symm g87))).trans (hrs0 j g68 g87)
  refine lv_aload_n hx hb dX13_jump_33 rfl (lv_at hl 0 rfl) ?_
  refine lv_iload_n hx hb dX13_jump_34 rfl (lv_at hl 1 rfl) ?_
  obtain ⟨⟨g901_0, u1_1⟩, hu_1, hsp⟩ := ox_bind hsp
  try dsimp only at hsp
  have hPc := hP.sub (ws' := [(h0, .inr (13, fs_3)), (qf67, .inl (cf67, 12000, .inl f67))]) [0, 3] rfl
  have hDc := hD.sub (ws' := [(h0, .inr (13, fs_3)), (qf67, .inl (cf67, 12000, .inl f67))]) [0, 3] (by decide) rfl
  have hKc := hK.sub (tys' := [(cf67, .int)]) [2] rfl
  have hFc := va_free (wc := [(h0, .inr (13, fs_3)), (qf67, .inl (cf67, 12000, .inl f67))]) hD hS hA [0, 3] rfl
  refine va_callv (va_runV (As := [.int a1]) (rest := []) ⟨hx, hb, hml, hown, hts⟩ (tm_put l dC dI H.size h0 fs_3 a1 qf67 v68 cf67 f67 nf g901_0 u1_1 hlfs_3 hfs_3_67 hfs_3_68 hu_1) (cwV 1 hts gv_h5_6 rfl rfl rfl (by decide +kernel) ⟨Nat.le_of_ble_eq_true rfl, Nat.le_of_ble_eq_true rfl⟩) ⟨fun a U g mk q => by obtain ⟨q0, q1, qP, qK, qD⟩ := q; exact ⟨q0, q1, qP, va_K.moved (u := U) (U := U.calling g mk a) (Vm.Alike.refl U.vm) qK, qD⟩, va_recv hKc hPc (ci := 13) (q0 := 0) rfl rfl, fun U hU hW => ⟨rfl, by rw [hU], by rw [hU]; exact hPc, va_K.moved hW.alike hKc, hDc.weaken (fun _ _ _ _ => trivial)⟩⟩ rfl rfl hl.1 rfl (lv_room (Nat.le_of_ble_eq_true rfl)) dX13_jump_35 ⟨Nat.le_of_ble_eq_true rfl, Nat.le_of_ble_eq_true rfl⟩) hS (fun q _ h => hFc q h) hFc ?_
  clear hS
  intro u t H1 locs ht hvm hw hB hz1 hk1 hS
  obtain ⟨z_1, rfl⟩ : ∃ z, z = u := ⟨_, rfl⟩
  obtain ⟨hP1, hK1, hD1⟩ := hB
  rw [ht] at hP1
  have hK1 := va_K.moved hvm.symm hK1
  try dsimp only at hw
  have hPD := va_join (wr := [(qf85, .inl (cf85, 3000, .inl (upd f85 (v87 : Int32).toNatClampNeg v68))), (qf86, .inl (cf86, 3000, .inl (upd f86 (v87 : Int32).toNatClampNeg a2)))]) (w1 := [(h0, .inr (13, z_1)), (qf67, .inl (cf67, 12000, .inl g901_0))]) hP hD [0, 3] [1, 2] rfl rfl (by decide) (by decide) hk1 hFc hP1 hD1
  clear hP hD
  obtain ⟨hP, hD⟩ := hPD
  replace hK := (hK.sub (tys' := [(cf85, .int), (cf86, .int)]) [0, 1] rfl).app hK1
  clear hPc hDc hKc hFc hP1 hK1 hD1 hz1 hk1 ht hvm
  generalize H1 = H at hP hS ⊢
  replace hP : va_P (dC, dI) vwCl [(qf85, .inl (cf85, 3000, .inl (upd f85 (v87 : Int32).toNatClampNeg v68))), (qf86, .inl (cf86, 3000, .inl (upd f86 (v87 : Int32).toNatClampNeg a2))), (h0, .inr (13, z_1)), (qf67, .inl (cf67, 12000, .inl g901_0))] H := hP
  replace hD : va_D A [(qf85, .inl (cf85, 3000, .inl (upd f85 (v87 : Int32).toNatClampNeg v68))), (qf86, .inl (cf86, 3000, .inl (upd f86 (v87 : Int32).toNatClampNeg a2))), (h0, .inr (13, z_1)), (qf67, .inl (cf67, 12000, .inl g901_0))] := hD
  replace hK : va_K (dC, dI) vwCl [(cf85, .int), (cf86, .int), (cf67, .int)] s := hK
  obtain ⟨hwa_1, hln_1, hre_1, hch_1_68⟩ := hw
  have hfk_1_67 : z_1[67]? = some (.ref qf67) := (hre_1 67 (by decide)).trans (hfs_3_67)
  have hfk_1_85 : z_1[85]? = some (.ref qf85) := (hre_1 85 (by decide)).trans (hfs_3_85)
  have hfk_1_86 : z_1[86]? = some (.ref qf86) := (hre_1 86 (by decide)).trans (hfs_3_86)
  have hfk_1_87 : z_1[87]? = some (.int (v87 + 1)) := (hre_1 87 (by decide)).trans (hfs_3_87)
  have hrq_1 : ∀ j : Nat, j ≠ 68 → j ≠ 87 → z_1[j]? = zs[j]? := fun j g68 g87 => (hre_1 j g68).trans (hrs_4 j g68 g87)
  refine lv_aload_n hx hb dX13_jump_38 rfl (lv_at hl 0 rfl) ?_
  refine lv_iconst (v := 0) hx hb dX13_jump_39 (by decide) ?_
  obtain ⟨⟨g902_0, u2_1⟩, hu_2, hsp⟩ := ox_bind hsp
  try dsimp only at hsp
  have hPc := hP.sub (ws' := [(h0, .inr (13, z_1)), (qf67, .inl (cf67, 12000, .inl g901_0))]) [2, 3] rfl
  have hDc := hD.sub (ws' := [(h0, .inr (13, z_1)), (qf67, .inl (cf67, 12000, .inl g901_0))]) [2, 3] (by decide) rfl
  have hKc := hK.sub (tys' := [(cf67, .int)]) [2] rfl
  have hFc := va_free (wc := [(h0, .inr (13, z_1)), (qf67, .inl (cf67, 12000, .inl g901_0))]) hD hS hA [2, 3] rfl
  refine va_callv (va_runV (As := [.int 0]) (rest := []) ⟨hx, hb, hml, hown, hts⟩ (tm_put l dC dI H.size h0 z_1 0 qf67 u1_1 cf67 g901_0 nf g902_0 u2_1 hln_1 hfk_1_67 hch_1_68 hu_2) (cwV 1 hts gv_h5_6 rfl rfl rfl (by decide +kernel) ⟨Nat.le_of_ble_eq_true rfl, Nat.le_of_ble_eq_true rfl⟩) ⟨fun a U g mk q => by obtain ⟨q0, q1, qP, qK, qD⟩ := q; exact ⟨q0, q1, qP, va_K.moved (u := U) (U := U.calling g mk a) (Vm.Alike.refl U.vm) qK, qD⟩, va_recv hKc hPc (ci := 13) (q0 := 0) rfl rfl, fun U hU hW => ⟨rfl, by rw [hU], by rw [hU]; exact hPc, va_K.moved hW.alike hKc, hDc.weaken (fun _ _ _ _ => trivial)⟩⟩ rfl rfl hl.1 rfl (lv_room (Nat.le_of_ble_eq_true rfl)) dX13_jump_40 ⟨Nat.le_of_ble_eq_true rfl, Nat.le_of_ble_eq_true rfl⟩) hS (fun q _ h => hFc q h) hFc ?_
  clear hS
  intro u t H1 locs ht hvm hw hB hz1 hk1 hS
  obtain ⟨z_2, rfl⟩ : ∃ z, z = u := ⟨_, rfl⟩
  obtain ⟨hP1, hK1, hD1⟩ := hB
  rw [ht] at hP1
  have hK1 := va_K.moved hvm.symm hK1
  try dsimp only at hw
  have hPD := va_join (wr := [(qf85, .inl (cf85, 3000, .inl (upd f85 (v87 : Int32).toNatClampNeg v68))), (qf86, .inl (cf86, 3000, .inl (upd f86 (v87 : Int32).toNatClampNeg a2)))]) (w1 := [(h0, .inr (13, z_2)), (qf67, .inl (cf67, 12000, .inl g902_0))]) hP hD [2, 3] [0, 1] rfl rfl (by decide) (by decide) hk1 hFc hP1 hD1
  clear hP hD
  obtain ⟨hP, hD⟩ := hPD
  replace hK := (hK.sub (tys' := [(cf85, .int), (cf86, .int)]) [0, 1] rfl).app hK1
  clear hPc hDc hKc hFc hP1 hK1 hD1 hz1 hk1 ht hvm
  generalize H1 = H at hP hS ⊢
  replace hP : va_P (dC, dI) vwCl [(qf85, .inl (cf85, 3000, .inl (upd f85 (v87 : Int32).toNatClampNeg v68))), (qf86, .inl (cf86, 3000, .inl (upd f86 (v87 : Int32).toNatClampNeg a2))), (h0, .inr (13, z_2)), (qf67, .inl (cf67, 12000, .inl g902_0))] H := hP
  replace hD : va_D A [(qf85, .inl (cf85, 3000, .inl (upd f85 (v87 : Int32).toNatClampNeg v68))), (qf86, .inl (cf86, 3000, .inl (upd f86 (v87 : Int32).toNatClampNeg a2))), (h0, .inr (13, z_2)), (qf67, .inl (cf67, 12000, .inl g902_0))] := hD
  replace hK : va_K (dC, dI) vwCl [(cf85, .int), (cf86, .int), (cf67, .int)] s := hK
  obtain ⟨hwa_2, hln_2, hre_2, hch_2_68⟩ := hw
  have hfk_2_67 : z_2[67]? = some (.ref qf67) := (hre_2 67 (by decide)).trans (hfk_1_67)
  have hfk_2_85 : z_2[85]? = some (.ref qf85) := (hre_2 85 (by decide)).trans (hfk_1_85)
  have hfk_2_86 : z_2[86]? = some (.ref qf86) := (hre_2 86 (by decide)).trans (hfk_1_86)
  have hfk_2_87 : z_2[87]? = some (.int (v87 + 1)) := (hre_2 87 (by decide)).trans (hfk_1_87)
  have hrq_2 : ∀ j : Nat, j ≠ 68 → j ≠ 87 → z_2[j]? = zs[j]? := fun j g68 g87 => (hre_2 j g68).trans (hrq_1 j g68 g87)
  refine lv_aload_n hx hb dX13_jump_43 rfl (lv_at hl 0 rfl) ?_
  refine lv_iconst (v := 0) hx hb dX13_jump_44 (by decide) ?_
  obtain ⟨⟨g903_0, u3_1⟩, hu_3, hsp⟩ := ox_bind hsp
  try dsimp only at hsp
  have hPc := hP.sub (ws' := [(h0, .inr (13, z_2)), (qf67, .inl (cf67, 12000, .inl g902_0))]) [2, 3] rfl
  have hDc := hD.sub (ws' := [(h0, .inr (13, z_2)), (qf67, .inl (cf67, 12000, .inl g902_0))]) [2, 3] (by decide) rfl
  have hKc := hK.sub (tys' := [(cf67, .int)]) [2] rfl
  have hFc := va_free (wc := [(h0, .inr (13, z_2)), (qf67, .inl (cf67, 12000, .inl g902_0))]) hD hS hA [2, 3] rfl
  refine va_callv (va_runV (As := [.int 0]) (rest := []) ⟨hx, hb, hml, hown, hts⟩ (tm_put l dC dI H.size h0 z_2 0 qf67 u2_1 cf67 g902_0 nf g903_0 u3_1 hln_2 hfk_2_67 hch_2_68 hu_3) (cwV 1 hts gv_h5_6 rfl rfl rfl (by decide +kernel) ⟨Nat.le_of_ble_eq_true rfl, Nat.le_of_ble_eq_true rfl⟩) ⟨fun a U g mk q => by obtain ⟨q0, q1, qP, qK, qD⟩ := q; exact ⟨q0, q1, qP, va_K.moved (u := U) (U := U.calling g mk a) (Vm.Alike.refl U.vm) qK, qD⟩, va_recv hKc hPc (ci := 13) (q0 := 0) rfl rfl, fun U hU hW => ⟨rfl, by rw [hU], by rw [hU]; exact hPc, va_K.moved hW.alike hKc, hDc.weaken (fun _ _ _ _ => trivial)⟩⟩ rfl rfl hl.1 rfl (lv_room (Nat.le_of_ble_eq_true rfl)) dX13_jump_45 ⟨Nat.le_of_ble_eq_true rfl, Nat.le_of_ble_eq_true rfl⟩) hS (fun q _ h => hFc q h) hFc ?_
  clear hS
  intro u t H1 locs ht hvm hw hB hz1 hk1 hS
  obtain ⟨z_3, rfl⟩ : ∃ z, z = u := ⟨_, rfl⟩
  obtain ⟨hP1, hK1, hD1⟩ := hB
  rw [ht] at hP1
  have hK1 := va_K.moved hvm.symm hK1
  try dsimp only at hw
  have hPD := va_join (wr := [(qf85, .inl (cf85, 3000, .inl (upd f85 (v87 : Int32).toNatClampNeg v68))), (qf86, .inl (cf86, 3000, .inl (upd f86 (v87 : Int32).toNatClampNeg a2)))]) (w1 := [(h0, .inr (13, z_3)), (qf67, .inl (cf67, 12000, .inl g903_0))]) hP hD [2, 3] [0, 1] rfl rfl (by decide) (by decide) hk1 hFc hP1 hD1
  clear hP hD
  obtain ⟨hP, hD⟩ := hPD
  replace hK := (hK.sub (tys' := [(cf85, .int), (cf86, .int)]) [0, 1] rfl).app hK1
  clear hPc hDc hKc hFc hP1 hK1 hD1 hz1 hk1 ht hvm
  generalize H1 = H at hP hS ⊢
  replace hP : va_P (dC, dI) vwCl [(qf85, .inl (cf85, 3000, .inl (upd f85 (v87 : Int32).toNatClampNeg v68))), (qf86, .inl (cf86, 3000, .inl (upd f86 (v87 : Int32).toNatClampNeg a2))), (h0, .inr (13, z_3)), (qf67, .inl (cf67, 12000, .inl g903_0))] H := hP
  replace hD : va_D A [(qf85, .inl (cf85, 3000, .inl (upd f85 (v87 : Int32).toNatClampNeg v68))), (qf86, .inl (cf86, 3000, .inl (upd f86 (v87 : Int32).toNatClampNeg a2))), (h0, .inr (13, z_3)), (qf67, .inl (cf67, 12000, .inl g903_0))] := hD
  replace hK : va_K (dC, dI) vwCl [(cf85, .int), (cf86, .int), (cf67, .int)] s := hK
  obtain ⟨hwa_3, hln_3, hre_3, hch_3_68⟩ := hw
  have hfk_3_67 : z_3[67]? = some (.ref qf67) := (hre_3 67 (by decide)).trans (hfk_2_67)
  have hfk_3_85 : z_3[85]? = some (.ref qf85) := (hre_3 85 (by decide)).trans (hfk_2_85)
  have hfk_3_86 : z_3[86]? = some (.ref qf86) := (hre_3 86 (by decide)).trans (hfk_2_86)
  have hfk_3_87 : z_3[87]? = some (.int (v87 + 1)) := (hre_3 87 (by decide)).trans (hfk_2_87)
  have hrq_3 : ∀ j : Nat, j ≠ 68 → j ≠ 87 → z_3[j]? = zs[j]? := fun j g68 g87 => (hre_3 j g68).trans (hrq_2 j g68 g87)
  have hr0 := Option.some.inj hsp
  clear hsp
  obtain ⟨hq0, hr1⟩ := Prod.mk.inj hr0
  clear hr0
  obtain ⟨hq1, hr2⟩ := Prod.mk.inj hr1
  clear hr1
  obtain ⟨hq2, hr3⟩ := Prod.mk.inj hr2
  clear hr2
  obtain ⟨hq3, hr4⟩ := Prod.mk.inj hr3
  clear hr3
  subst hq0
  subst hq1
  subst hq2
  subst hq3
  subst hr4
  have hP9 := hP.sub (ws' := [(h0, .inr (13, z_3)), (qf85, .inl (cf85, 3000, .inl (upd f85 (v87 : Int32).toNatClampNeg v68))), (qf86, .inl (cf86, 3000, .inl (upd f86 (v87 : Int32).toNatClampNeg a2))), (qf67, .inl (cf67, 12000, .inl g903_0))]) [2, 0, 1, 3] rfl
  have hD9 := hD.sub (ws' := [(h0, .inr (13, z_3)), (qf85, .inl (cf85, 3000, .inl (upd f85 (v87 : Int32).toNatClampNeg v68))), (qf86, .inl (cf86, 3000, .inl (upd f86 (v87 : Int32).toNatClampNeg a2))), (qf67, .inl (cf67, 12000, .inl g903_0))]) [2, 0, 1, 3] (by decide) rfl
  have hK9 := hK.sub (tys' := [(cf85, .int), (cf86, .int), (cf67, .int)]) [0, 1, 2] rfl
  exact W.vret hx hb hr (fun t ht hW => ⟨⟨(z_3), rfl, ⟨trivial, hln_3, hrq_3, hch_3_68, hfk_3_87⟩, by rw [ht]; exact hP9, va_K.moved hW.alike hK9, hD9⟩, hS.F ht⟩) hS.2.2 dX13_jump_48
def sp_tm_label (nf : Nat) (v88 : Int32) : Option (Int32 × Int32) := (some ((v88 + 1), (v88 + 1)))
set_option maxHeartbeats 4000000 in
set_option maxRecDepth 100000 in
/-- ClassMillModel.label -/
theorem tm_label (l : Launch) (dC : Nat → ClassId) (dI : Nat → Nat → Nat) (sz : Nat) (h0 : Nat) (zs : (List Value)) (v88 : Int32) (nf : Nat) (r0 : Int32) (w88 : Int32) (hlen : zs.length = 155) (hf88 : zs[88]? = some (.int v88)) (hsp : sp_tm_label nf v88 = some (r0, w88)) : Met l yX13_label (.code yX13_label cX13_label 1 (some .int) :: VS_h5) ({ frames := 0, cells := 0, slots := 0, locals := 0 }) (va_Pc [.ref h0] (fun U => U.heap.size = sz ∧ va_P (dC, dI) vwCl [(h0, .inr (13, zs))] U.heap ∧ va_K (dC, dI) vwCl [] U ∧ va_D (fun _ => True) [(h0, .inr (13, zs))])) (va_Qi (fun (r : Int32) (u : (List Value)) => match u with | (zo1) => r0 = r ∧ zo1.length = 155 ∧ (∀ j : Nat, j ≠ 88 → zo1[j]? = zs[j]?) ∧ zo1[88]? = some (.int w88)) (fun (u : (List Value)) (t : State) => match u with | (zo1) => va_P (dC, dI) vwCl [(h0, .inr (13, zo1))] t.heap ∧ va_K (dC, dI) vwCl [] t ∧ va_D (va_A [(h0, .inr (13, zs))] sz) [(h0, .inr (13, zo1))]) (va_A [(h0, .inr (13, zs))] sz)) 0 0 (va_A [(h0, .inr (13, zs))] sz) := by
  refine Met.ofW (cc := cX13_label) (maxL := 1) (ret := (some .int)) (by decide) rfl ?_
  intro p e s m args below meth c s₁ B hml hv
  obtain ⟨rfl, hsz, hP, hK, hD0⟩ := hv
  have hx := B.exec
  have hb := B.bytes
  have hr := B.returns
  have hts := atoms_spec (ws := (.code yX13_label cX13_label 1 (some .int) :: VS_h5)) B.pre
  replace hts := fun w (h : w ∈ VS_h5) => hts w (List.mem_cons_of_mem _ h)
  have hown : s.vm.findClass RX13 = some m.cls := findClass_of_methodNamed B.named
  have hlocks := B.notSynchronized
  subst hsz
  have hD := hD0.self (sz := s.heap.size)
  generalize hAe : va_A [(h0, .inr (13, zs))] s.heap.size = A at hD  ⊢
  have hA : ∀ q : Nat, s.heap.size ≤ q → A q := fun q h => by rw [← hAe]; exact Or.inr h
  have hP : va_P (dC, dI) vwCl [(h0, .inr (13, zs))] s.heap := hP
  have hl := lv_entry ([.ref h0]) (n := 1) (Nat.le_of_ble_eq_true rfl)
  rw [lg_entry_eq]
  generalize (lg_sl ([.ref h0]) ++ List.replicate (1 - (lg_sl ([.ref h0])).length) Slot.unset).toArray = ls at hl ⊢
  have hl : lv_has ls 1 [(0, .ref h0)] := hl
  obtain ⟨H, hH⟩ : ∃ H : Heap, s.heap = H := ⟨_, rfl⟩
  rw [hH] at hP ⊢
  have hS : va_S A s.heap H [] := by rw [← hH]; exact va_S.rf
  obtain ⟨locs, hlo⟩ : ∃ locs : List Loc, locs = [] := ⟨_, rfl⟩
  rw [← hlo] at hS ⊢
  have hrs0 : ∀ j : Nat, j ≠ 88 → zs[j]? = zs[j]? := fun _ _  => rfl
  unfold sp_tm_label at hsp
  refine lv_aload_n hx hb dX13_label_0 rfl (lv_at hl 0 rfl) ?_
  refine lv_dup hx hb dX13_label_1 rfl ?_
  refine va_get (D := (dC, dI)) (ci := 13) (v := .int v88) (C := RX13) (T := TX13) (N := 155) hx hb hts uV_h5_X13 hown hK hP 0 rfl rfl 88 (by decide) (hts (.fieldLink RX13 658 "ClassMillModel" "labels" "I") mw_h5_64) (fun _ h9 => h9) hf88 dX13_label_2 ?_
  refine lv_iconst (v := 1) hx hb dX13_label_5 (by decide) ?_
  refine lv_iadd hx hb dX13_label_6 ?_
  refine va_put (D := (dC, dI)) (ci := 13) (v := .int (v88 + 1)) (ty := .int) (C := RX13) (T := TX13) (N := 155) hx hb hts uV_h5_X13 tyX13 tyX13_ok nmX13 hown hK hP hD hS 0 rfl rfl 88 (by decide) (hts (.fieldLink RX13 658 "ClassMillModel" "labels" "I") mw_h5_64) (fun _ h9 => h9) rfl (by decide +kernel) rfl rfl (by rw [hlen]; decide) dX13_label_7 ?_
  clear hP hD hS
  intro H locs hP hD hS
  obtain ⟨fs_1, efs_1⟩ : ∃ zf : List Value, zf = zs.set 88 (.int (v88 + 1)) := ⟨_, rfl⟩
  rw [← efs_1] at hP hD
  have hlfs_1 : fs_1.length = 155 := by rw [efs_1, List.length_set]; exact hlen
  have hfs_1_88 : fs_1[88]? = some (.int (v88 + 1)) := by rw [efs_1, List.getElem?_set_self (by rw [hlen]; decide)]
  replace hP : va_P (dC, dI) vwCl [(h0, .inr (13, fs_1))] H := hP
  replace hD : va_D A [(h0, .inr (13, fs_1))] := hD
  have hrs_2 : ∀ j : Nat, j ≠ 88 → fs_1[j]? = zs[j]? := fun j g88 => ((congrArg (fun z : List Value => z[j]?) efs_1).trans (List.getElem?_set_ne (Ne.symm g88))).trans (hrs0 j g88)
  refine lv_aload_n hx hb dX13_label_10 rfl (lv_at hl 0 rfl) ?_
  refine va_get (D := (dC, dI)) (ci := 13) (v := .int (v88 + 1)) (C := RX13) (T := TX13) (N := 155) hx hb hts uV_h5_X13 hown hK hP 0 rfl rfl 88 (by decide) (hts (.fieldLink RX13 658 "ClassMillModel" "labels" "I") mw_h5_64) (fun _ h9 => h9) hfs_1_88 dX13_label_11 ?_
  have hr0 := Option.some.inj hsp
  clear hsp
  obtain ⟨hq0, hr1⟩ := Prod.mk.inj hr0
  clear hr0
  subst hq0
  subst hr1
  have hP9 := hP.sub (ws' := [(h0, .inr (13, fs_1))]) [0] rfl
  have hD9 := hD.sub (ws' := [(h0, .inr (13, fs_1))]) [0] (by decide) rfl
  have hK9 := hK.sub (tys' := []) [] rfl
  exact W.iret hx hb hr (fun t ht hW => ⟨⟨((v88 + 1)), (fs_1), rfl, ⟨rfl, hlfs_1, hrs_2, hfs_1_88⟩, by rw [ht]; exact hP9, va_K.moved hW.alike hK9, hD9⟩, hS.F ht⟩) hS.2.2 dX13_label_14
def sp_tm_comes (nf : Nat) (a1 : Int32) (a2 : Int32) (v50 : Int32) (v72 : Int32) (f48 : Nat → Int32) (f49 : Nat → Int32) : Option ((Nat → Int32) × (Nat → Int32) × Int32 × Int32) := ((sp_tm_come nf a1 a2 v50 f48 f49).bind (fun p1 => (some (p1.1, p1.2.1, p1.2.2, (if v72 < p1.2.2 then p1.2.2 else v72)))))
set_option maxHeartbeats 4000000 in
set_option maxRecDepth 100000 in
/-- ClassMillModel.comes -/
theorem tm_comes (l : Launch) (dC : Nat → ClassId) (dI : Nat → Nat → Nat) (sz : Nat) (h0 : Nat) (zs : (List Value)) (a1 : Int32) (a2 : Int32) (qf48 : Nat) (qf49 : Nat) (v50 : Int32) (v72 : Int32) (cf48 : ClassId) (f48 : (Nat → Int32)) (cf49 : ClassId) (f49 : (Nat → Int32)) (nf : Nat) (o48 : (Nat → Int32)) (o49 : (Nat → Int32)) (w50 : Int32) (w72 : Int32) (hlen : zs.length = 155) (hf48 : zs[48]? = some (.ref qf48)) (hf49 : zs[49]? = some (.ref qf49)) (hf50 : zs[50]? = some (.int v50)) (hf72 : zs[72]? = some (.int v72)) (hsp : sp_tm_comes nf a1 a2 v50 v72 f48 f49 = some (o48, o49, w50, w72)) : Met l yX13_comes (.code yX13_comes cX13_comes 3 none :: VS_h5) ({ frames := 1, cells := 0, slots := 0, locals := 22 }) (va_Pc [.ref h0, .int a1, .int a2] (fun U => U.heap.size = sz ∧ va_P (dC, dI) vwCl [(h0, .inr (13, zs)), (qf48, .inl (cf48, 3000, .inl f48)), (qf49, .inl (cf49, 3000, .inl f49))] U.heap ∧ va_K (dC, dI) vwCl [(cf48, .int), (cf49, .int)] U ∧ va_D (fun _ => True) [(h0, .inr (13, zs)), (qf48, .inl (cf48, 3000, .inl f48)), (qf49, .inl (cf49, 3000, .inl f49))])) (va_Qv (fun (u : (List Value)) => match u with | (zo1) => True ∧ zo1.length = 155 ∧ (∀ j : Nat, j ≠ 50 → j ≠ 72 → zo1[j]? = zs[j]?) ∧ zo1[50]? = some (.int w50) ∧ zo1[72]? = some (.int w72)) (fun (u : (List Value)) (t : State) => match u with | (zo1) => va_P (dC, dI) vwCl [(h0, .inr (13, zo1)), (qf48, .inl (cf48, 3000, .inl o48)), (qf49, .inl (cf49, 3000, .inl o49))] t.heap ∧ va_K (dC, dI) vwCl [(cf48, .int), (cf49, .int)] t ∧ va_D (va_A [(h0, .inr (13, zs)), (qf48, .inl (cf48, 3000, .inl f48)), (qf49, .inl (cf49, 3000, .inl f49))] sz) [(h0, .inr (13, zo1)), (qf48, .inl (cf48, 3000, .inl o48)), (qf49, .inl (cf49, 3000, .inl o49))]) (va_A [(h0, .inr (13, zs)), (qf48, .inl (cf48, 3000, .inl f48)), (qf49, .inl (cf49, 3000, .inl f49))] sz)) 0 0 (va_A [(h0, .inr (13, zs)), (qf48, .inl (cf48, 3000, .inl f48)), (qf49, .inl (cf49, 3000, .inl f49))] sz) := by
  refine Met.ofW (cc := cX13_comes) (maxL := 3) (ret := none) (by decide) rfl ?_
  intro p e s m args below meth c s₁ B hml hv
  obtain ⟨rfl, hsz, hP, hK, hD0⟩ := hv
  have hx := B.exec
  have hb := B.bytes
  have hr := B.returns
  have hts := atoms_spec (ws := (.code yX13_comes cX13_comes 3 none :: VS_h5)) B.pre
  replace hts := fun w (h : w ∈ VS_h5) => hts w (List.mem_cons_of_mem _ h)
  have hown : s.vm.findClass RX13 = some m.cls := findClass_of_methodNamed B.named
  have hlocks := B.notSynchronized
  subst hsz
  have hD := hD0.self (sz := s.heap.size)
  generalize hAe : va_A [(h0, .inr (13, zs)), (qf48, .inl (cf48, 3000, .inl f48)), (qf49, .inl (cf49, 3000, .inl f49))] s.heap.size = A at hD  ⊢
  have hA : ∀ q : Nat, s.heap.size ≤ q → A q := fun q h => by rw [← hAe]; exact Or.inr h
  have hP : va_P (dC, dI) vwCl [(h0, .inr (13, zs)), (qf48, .inl (cf48, 3000, .inl f48)), (qf49, .inl (cf49, 3000, .inl f49))] s.heap := hP
  have hl := lv_entry ([.ref h0, .int a1, .int a2]) (n := 3) (Nat.le_of_ble_eq_true rfl)
  rw [lg_entry_eq]
  generalize (lg_sl ([.ref h0, .int a1, .int a2]) ++ List.replicate (3 - (lg_sl ([.ref h0, .int a1, .int a2])).length) Slot.unset).toArray = ls at hl ⊢
  have hl : lv_has ls 3 [(0, .ref h0), (1, .int a1), (2, .int a2)] := hl
  obtain ⟨H, hH⟩ : ∃ H : Heap, s.heap = H := ⟨_, rfl⟩
  rw [hH] at hP ⊢
  have hS : va_S A s.heap H [] := by rw [← hH]; exact va_S.rf
  obtain ⟨locs, hlo⟩ : ∃ locs : List Loc, locs = [] := ⟨_, rfl⟩
  rw [← hlo] at hS ⊢
  have hrs0 : ∀ j : Nat, j ≠ 50 → j ≠ 72 → zs[j]? = zs[j]? := fun _ _ _  => rfl
  unfold sp_tm_comes at hsp
  refine lv_aload_n hx hb dX13_comes_0 rfl (lv_at hl 0 rfl) ?_
  refine lv_iload_n hx hb dX13_comes_1 rfl (lv_at hl 1 rfl) ?_
  refine lv_iload_n hx hb dX13_comes_2 rfl (lv_at hl 2 rfl) ?_
  obtain ⟨⟨g901_0, g901_1, u1_2⟩, hu_1, hsp⟩ := ox_bind hsp
  try dsimp only at hsp
  have hPc := hP.sub (ws' := [(h0, .inr (13, zs)), (qf48, .inl (cf48, 3000, .inl f48)), (qf49, .inl (cf49, 3000, .inl f49))]) [0, 1, 2] rfl
  have hDc := hD.sub (ws' := [(h0, .inr (13, zs)), (qf48, .inl (cf48, 3000, .inl f48)), (qf49, .inl (cf49, 3000, .inl f49))]) [0, 1, 2] (by decide) rfl
  have hKc := hK.sub (tys' := [(cf48, .int), (cf49, .int)]) [0, 1] rfl
  have hFc := va_free (wc := [(h0, .inr (13, zs)), (qf48, .inl (cf48, 3000, .inl f48)), (qf49, .inl (cf49, 3000, .inl f49))]) hD hS hA [0, 1, 2] rfl
  refine va_callv (va_runV (As := [.int a1, .int a2]) (rest := []) ⟨hx, hb, hml, hown, hts⟩ (tm_come l dC dI H.size h0 zs a1 a2 qf48 qf49 v50 cf48 f48 cf49 f49 nf g901_0 g901_1 u1_2 hlen hf48 hf49 hf50 hu_1) (cwV 2 hts gv_h5_7 rfl rfl rfl (by decide +kernel) ⟨Nat.le_of_ble_eq_true rfl, Nat.le_of_ble_eq_true rfl⟩) ⟨fun a U g mk q => by obtain ⟨q0, q1, qP, qK, qD⟩ := q; exact ⟨q0, q1, qP, va_K.moved (u := U) (U := U.calling g mk a) (Vm.Alike.refl U.vm) qK, qD⟩, va_recv hKc hPc (ci := 13) (q0 := 0) rfl rfl, fun U hU hW => ⟨rfl, by rw [hU], by rw [hU]; exact hPc, va_K.moved hW.alike hKc, hDc.weaken (fun _ _ _ _ => trivial)⟩⟩ rfl rfl hl.1 rfl (lv_room (Nat.le_of_ble_eq_true rfl)) dX13_comes_3 ⟨Nat.le_of_ble_eq_true rfl, Nat.le_of_ble_eq_true rfl⟩) hS (fun q _ h => hFc q h) hFc ?_
  clear hS
  intro u t H1 locs ht hvm hw hB hz1 hk1 hS
  obtain ⟨z_1, rfl⟩ : ∃ z, z = u := ⟨_, rfl⟩
  obtain ⟨hP1, hK1, hD1⟩ := hB
  rw [ht] at hP1
  have hK1 := va_K.moved hvm.symm hK1
  try dsimp only at hw
  have hPD := va_join (wr := []) (w1 := [(h0, .inr (13, z_1)), (qf48, .inl (cf48, 3000, .inl g901_0)), (qf49, .inl (cf49, 3000, .inl g901_1))]) hP hD [0, 1, 2] [] rfl rfl (by decide) (by decide) hk1 hFc hP1 hD1
  clear hP hD
  obtain ⟨hP, hD⟩ := hPD
  replace hK := (hK.sub (tys' := []) [] rfl).app hK1
  clear hPc hDc hKc hFc hP1 hK1 hD1 hz1 hk1 ht hvm
  generalize H1 = H at hP hS ⊢
  replace hP : va_P (dC, dI) vwCl [(h0, .inr (13, z_1)), (qf48, .inl (cf48, 3000, .inl g901_0)), (qf49, .inl (cf49, 3000, .inl g901_1))] H := hP
  replace hD : va_D A [(h0, .inr (13, z_1)), (qf48, .inl (cf48, 3000, .inl g901_0)), (qf49, .inl (cf49, 3000, .inl g901_1))] := hD
  replace hK : va_K (dC, dI) vwCl [(cf48, .int), (cf49, .int)] s := hK
  obtain ⟨hwa_1, hln_1, hre_1, hch_1_50⟩ := hw
  have hfk_1_48 : z_1[48]? = some (.ref qf48) := (hre_1 48 (by decide)).trans (hf48)
  have hfk_1_49 : z_1[49]? = some (.ref qf49) := (hre_1 49 (by decide)).trans (hf49)
  have hfk_1_72 : z_1[72]? = some (.int v72) := (hre_1 72 (by decide)).trans (hf72)
  have hrq_1 : ∀ j : Nat, j ≠ 50 → j ≠ 72 → z_1[j]? = zs[j]? := fun j g50 g72 => (hre_1 j g50).trans (hrs0 j g50 g72)
  refine lv_aload_n hx hb dX13_comes_6 rfl (lv_at hl 0 rfl) ?_
  refine lv_aload_n hx hb dX13_comes_7 rfl (lv_at hl 0 rfl) ?_
  refine va_get (D := (dC, dI)) (ci := 13) (v := .int v72) (C := RX13) (T := TX13) (N := 155) hx hb hts uV_h5_X13 hown hK hP 0 rfl rfl 72 (by decide) (hts (.fieldLink RX13 661 "ClassMillModel" "sightMost" "I") mw_h5_69) (fun _ h9 => h9) hfk_1_72 dX13_comes_8 ?_
  refine lv_aload_n hx hb dX13_comes_11 rfl (lv_at hl 0 rfl) ?_
  refine va_get (D := (dC, dI)) (ci := 13) (v := .int u1_2) (C := RX13) (T := TX13) (N := 155) hx hb hts uV_h5_X13 hown hK hP 0 rfl rfl 50 (by decide) (hts (.fieldLink RX13 513 "ClassMillModel" "sight" "I") mw_h5_31) (fun _ h9 => h9) hch_1_50 dX13_comes_12 ?_
  refine va_mmax hx hb (by rw [hml]; exact hl.1.symm) hown (hts (.methodLink RX13 635 yJ9_max_7cf53) mw_h5_49) (hts (.static yJ9_max_7cf53) mw_h5_50) (hts (.initialized "java/lang/Math") mw_h5_51) (hts (.code yJ9_max_7cf53 cJ9_max_7cf53 2 (some .int)) mw_h5_52) (Nat.le_of_ble_eq_true rfl) (Nat.le_of_ble_eq_true rfl) (Nat.le_of_ble_eq_true rfl) (Nat.le_of_ble_eq_true rfl) dX13_comes_15 ?_
  refine va_put (D := (dC, dI)) (ci := 13) (v := .int (if v72 < u1_2 then u1_2 else v72)) (ty := .int) (C := RX13) (T := TX13) (N := 155) hx hb hts uV_h5_X13 tyX13 tyX13_ok nmX13 hown hK hP hD hS 0 rfl rfl 72 (by decide) (hts (.fieldLink RX13 661 "ClassMillModel" "sightMost" "I") mw_h5_69) (fun _ h9 => h9) rfl (by decide +kernel) rfl rfl (by rw [hln_1]; decide) dX13_comes_18 ?_
  clear hP hD hS
  intro H locs hP hD hS
  obtain ⟨fs_1, efs_1⟩ : ∃ zf : List Value, zf = z_1.set 72 (.int (if v72 < u1_2 then u1_2 else v72)) := ⟨_, rfl⟩
  rw [← efs_1] at hP hD
  have hlfs_1 : fs_1.length = 155 := by rw [efs_1, List.length_set]; exact hln_1
  have hfs_1_48 : fs_1[48]? = some (.ref qf48) := by rw [efs_1, List.getElem?_set_ne (by decide)]; exact hfk_1_48
  have hfs_1_49 : fs_1[49]? = some (.ref qf49) := by rw [efs_1, List.getElem?_set_ne (by decide)]; exact hfk_1_49
  have hfs_1_50 : fs_1[50]? = some (.int u1_2) := by rw [efs_1, List.getElem?_set_ne (by decide)]; exact hch_1_50
  have hfs_1_72 : fs_1[72]? = some (.int (if v72 < u1_2 then u1_2 else v72)) := by rw [efs_1, List.getElem?_set_self (by rw [hln_1]; decide)]
  replace hP : va_P (dC, dI) vwCl [(h0, .inr (13, fs_1)), (qf48, .inl (cf48, 3000, .inl g901_0)), (qf49, .inl (cf49, 3000, .inl g901_1))] H := hP
  replace hD : va_D A [(h0, .inr (13, fs_1)), (qf48, .inl (cf48, 3000, .inl g901_0)), (qf49, .inl (cf49, 3000, .inl g901_1))] := hD
  have hrs_2 : ∀ j : Nat, j ≠ 50 → j ≠ 72 → fs_1[j]? = zs[j]? := fun j g50 g72 => ((congrArg (fun z : List Value => z[j]?) efs_1).trans (List.getElem?_set_ne (Ne.symm g72))).trans (hrq_1 j g50 g72)
  have hr0 := Option.some.inj hsp
  clear hsp
  obtain ⟨hq0, hr1⟩ := Prod.mk.inj hr0
  clear hr0
  obtain ⟨hq1, hr2⟩ := Prod.mk.inj hr1
  clear hr1
  obtain ⟨hq2, hr3⟩ := Prod.mk.inj hr2
  clear hr2
  subst hq0
  subst hq1
  subst hq2
  subst hr3
  have hP9 := hP.sub (ws' := [(h0, .inr (13, fs_1)), (qf48, .inl (cf48, 3000, .inl g901_0)), (qf49, .inl (cf49, 3000, .inl g901_1))]) [0, 1, 2] rfl
  have hD9 := hD.sub (ws' := [(h0, .inr (13, fs_1)), (qf48, .inl (cf48, 3000, .inl g901_0)), (qf49, .inl (cf49, 3000, .inl g901_1))]) [0, 1, 2] (by decide) rfl
  have hK9 := hK.sub (tys' := [(cf48, .int), (cf49, .int)]) [0, 1] rfl
  exact W.vret hx hb hr (fun t ht hW => ⟨⟨(fs_1), rfl, ⟨trivial, hlfs_1, hrs_2, hfs_1_50, hfs_1_72⟩, by rw [ht]; exact hP9, va_K.moved hW.alike hK9, hD9⟩, hS.F ht⟩) hS.2.2 dX13_comes_21
def sp_tm_store (nf : Nat) (a1 : Int32) (a2 : Int32) (v53 : Int32) (v68 : Int32) (v70 : Int32) (f67 : Nat → Int32) : Option ((Nat → Int32) × Int32 × Int32) := (if 1 < a1 then ((sp_tm_put nf 58 v68 f67).bind (fun p1 => ((sp_tm_local nf a2 v53).bind (fun p2 => ((sp_tm_put nf p2 p1.2 p1.1).bind (fun p3 => (some (p3.1, p3.2, (v70 - 1))))))))) else ((sp_tm_put nf 54 v68 f67).bind (fun p4 => ((sp_tm_local nf a2 v53).bind (fun p5 => ((sp_tm_put nf p5 p4.2 p4.1).bind (fun p6 => (some (p6.1, p6.2, (v70 - 1))))))))))
