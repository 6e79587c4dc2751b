set_option maxHeartbeats 4000000 in
set_option maxRecDepth 100000 in
/-- ClassMill$Machine.stepThrow -/
theorem t5_stepThrow (l : Launch) (dC : Nat → ClassId) (dI : Nat → Nat → Nat) (sz : Nat) (h0 : Nat) (qf0 : Nat) (v1 : Int32) (v2 : Int32) (v3 : Int32) (v4 : Int32) (v5 : Int32) (v6 : Int32) (v7 : Int32) (qf8 : Nat) (qf9 : Nat) (qf10 : Nat) (qf11 : Nat) (qf12 : Nat) (qf13 : Nat) (qf14 : Nat) (qf15 : Nat) (qf16 : Nat) (v17 : Int32) (qf18 : Nat) (v19 : Int32) (v20 : Int32) (cf14 : ClassId) (f14 : (Nat → Int32)) (cf16 : ClassId) (f16 : (Nat → Int32)) (nf : Nat) (o14 : (Nat → Int32)) (w1 : Int32) (w20 : Int32) (hsp : sp_t5_stepThrow nf v1 v17 f14 f16 = some (o14, w1, w20)) : Met l yX5_stepThrow (.code yX5_stepThrow cX5_stepThrow 2 none :: VS_h3) ({ frames := 1, cells := 0, slots := 0, locals := 21 }) (va_Pc [.ref h0] (fun U => U.heap.size = sz ∧ va_P (dC, dI) vwCl [(h0, .inr (5, [.ref qf0, .int v1, .int v2, .int v3, .int v4, .int v5, .int v6, .int v7, .ref qf8, .ref qf9, .ref qf10, .ref qf11, .ref qf12, .ref qf13, .ref qf14, .ref qf15, .ref qf16, .int v17, .ref qf18, .int v19, .int v20])), (qf14, .inl (cf14, 60, .inl f14)), (qf16, .inl (cf16, 1800, .inl f16))] U.heap ∧ va_K (dC, dI) vwCl [(cf14, .int), (cf16, .int)] U ∧ va_D (fun _ => True) [(h0, .inr (5, [.ref qf0, .int v1, .int v2, .int v3, .int v4, .int v5, .int v6, .int v7, .ref qf8, .ref qf9, .ref qf10, .ref qf11, .ref qf12, .ref qf13, .ref qf14, .ref qf15, .ref qf16, .int v17, .ref qf18, .int v19, .int v20])), (qf14, .inl (cf14, 60, .inl f14)), (qf16, .inl (cf16, 1800, .inl f16))])) (va_Qv (fun (u : Unit) => match u with | () => True) (fun (u : Unit) (t : State) => match u with | () => va_P (dC, dI) vwCl [(h0, .inr (5, [.ref qf0, .int w1, .int v2, .int v3, .int v4, .int v5, .int v6, .int v7, .ref qf8, .ref qf9, .ref qf10, .ref qf11, .ref qf12, .ref qf13, .ref qf14, .ref qf15, .ref qf16, .int v17, .ref qf18, .int v19, .int w20])), (qf14, .inl (cf14, 60, .inl o14)), (qf16, .inl (cf16, 1800, .inl f16))] t.heap ∧ va_K (dC, dI) vwCl [(cf14, .int), (cf16, .int)] t ∧ va_D (va_A [(h0, .inr (5, [.ref qf0, .int v1, .int v2, .int v3, .int v4, .int v5, .int v6, .int v7, .ref qf8, .ref qf9, .ref qf10, .ref qf11, .ref qf12, .ref qf13, .ref qf14, .ref qf15, .ref qf16, .int v17, .ref qf18, .int v19, .int v20])), (qf14, .inl (cf14, 60, .inl f14)), (qf16, .inl (cf16, 1800, .inl f16))] sz) [(h0, .inr (5, [.ref qf0, .int w1, .int v2, .int v3, .int v4, .int v5, .int v6, .int v7, .ref qf8, .ref qf9, .ref qf10, .ref qf11, .ref qf12, .ref qf13, .ref qf14, .ref qf15, .ref qf16, .int v17, .ref qf18, .int v19, .int w20])), (qf14, .inl (cf14, 60, .inl o14)), (qf16, .inl (cf16, 1800, .inl f16))]) (va_A [(h0, .inr (5, [.ref qf0, .int v1, .int v2, .int v3, .int v4, .int v5, .int v6, .int v7, .ref qf8, .ref qf9, .ref qf10, .ref qf11, .ref qf12, .ref qf13, .ref qf14, .ref qf15, .ref qf16, .int v17, .ref qf18, .int v19, .int v20])), (qf14, .inl (cf14, 60, .inl f14)), (qf16, .inl (cf16, 1800, .inl f16))] sz)) 0 0 (va_A [(h0, .inr (5, [.ref qf0, .int v1, .int v2, .int v3, .int v4, .int v5, .int v6, .int v7, .ref qf8, .ref qf9, .ref qf10, .ref qf11, .ref qf12, .ref qf13, .ref qf14, .ref qf15, .ref qf16, .int v17, .ref qf18, .int v19, .int v20])), (qf14, .inl (cf14, 60, .inl f14)), (qf16, .inl (cf16, 1800, .inl f16))] sz) := by
  refine Met.ofW (cc := cX5_stepThrow) (maxL := 2) (ret := none) (by decide) rfl ?_
  intro p e s m args below meth c s₁ B hml hv
  obtain ⟨rfl, hsz, hP, hK, hD0⟩ := hv
  have hx := B.exec
  have hb := B.bytes
  have hr := B.returns
  have hts := atoms_spec (ws := (.code yX5_stepThrow cX5_stepThrow 2 none :: VS_h3)) B.pre
  replace hts := fun w (h : w ∈ VS_h3) => hts w (List.mem_cons_of_mem _ h)
  have hown : s.vm.findClass RX5 = some m.cls := findClass_of_methodNamed B.named
  have hlocks := B.notSynchronized
  subst hsz
  have hD := hD0.self (sz := s.heap.size)
  generalize hAe : va_A [(h0, .inr (5, [.ref qf0, .int v1, .int v2, .int v3, .int v4, .int v5, .int v6, .int v7, .ref qf8, .ref qf9, .ref qf10, .ref qf11, .ref qf12, .ref qf13, .ref qf14, .ref qf15, .ref qf16, .int v17, .ref qf18, .int v19, .int v20])), (qf14, .inl (cf14, 60, .inl f14)), (qf16, .inl (cf16, 1800, .inl f16))] s.heap.size = A at hD  ⊢
  have hA : ∀ q : Nat, s.heap.size ≤ q → A q := fun q h => by rw [← hAe]; exact Or.inr h
  have hP : va_P (dC, dI) vwCl [(h0, .inr (5, [.ref qf0, .int v1, .int v2, .int v3, .int v4, .int v5, .int v6, .int v7, .ref qf8, .ref qf9, .ref qf10, .ref qf11, .ref qf12, .ref qf13, .ref qf14, .ref qf15, .ref qf16, .int v17, .ref qf18, .int v19, .int v20])), (qf14, .inl (cf14, 60, .inl f14)), (qf16, .inl (cf16, 1800, .inl f16))] s.heap := hP
  have hl := lv_entry ([.ref h0]) (n := 2) (Nat.le_of_ble_eq_true rfl)
  rw [lg_entry_eq]
  generalize (lg_sl ([.ref h0]) ++ List.replicate (2 - (lg_sl ([.ref h0])).length) Slot.unset).toArray = ls at hl ⊢
  have hl : lv_has ls 2 [(0, .ref h0)] := hl
  obtain ⟨H, hH⟩ : ∃ H : Heap, s.heap = H := ⟨_, rfl⟩
  rw [hH] at hP ⊢
  have hS : va_S A s.heap H [] := by rw [← hH]; exact va_S.rf
  obtain ⟨locs, hlo⟩ : ∃ locs : List Loc, locs = [] := ⟨_, rfl⟩
  rw [← hlo] at hS ⊢
  unfold sp_t5_stepThrow at hsp
  refine lv_aload_n hx hb dX5_stepThrow_0 rfl (lv_at hl 0 rfl) ?_
  obtain ⟨⟨u1_0, g901_1, u1_2⟩, hu_1, hsp⟩ := ox_bind hsp
  try dsimp only at hsp
  have hPc := hP.sub (ws' := [(h0, .inr (5, [.ref qf0, .int v1, .int v2, .int v3, .int v4, .int v5, .int v6, .int v7, .ref qf8, .ref qf9, .ref qf10, .ref qf11, .ref qf12, .ref qf13, .ref qf14, .ref qf15, .ref qf16, .int v17, .ref qf18, .int v19, .int v20])), (qf14, .inl (cf14, 60, .inl f14)), (qf16, .inl (cf16, 1800, .inl f16))]) [0, 1, 2] rfl
  have hDc := hD.sub (ws' := [(h0, .inr (5, [.ref qf0, .int v1, .int v2, .int v3, .int v4, .int v5, .int v6, .int v7, .ref qf8, .ref qf9, .ref qf10, .ref qf11, .ref qf12, .ref qf13, .ref qf14, .ref qf15, .ref qf16, .int v17, .ref qf18, .int v19, .int v20])), (qf14, .inl (cf14, 60, .inl f14)), (qf16, .inl (cf16, 1800, .inl f16))]) [0, 1, 2] (by decide) rfl
  have hKc := hK.sub (tys' := [(cf14, .int), (cf16, .int)]) [0, 1] rfl
  have hFc := va_free (wc := [(h0, .inr (5, [.ref qf0, .int v1, .int v2, .int v3, .int v4, .int v5, .int v6, .int v7, .ref qf8, .ref qf9, .ref qf10, .ref qf11, .ref qf12, .ref qf13, .ref qf14, .ref qf15, .ref qf16, .int v17, .ref qf18, .int v19, .int v20])), (qf14, .inl (cf14, 60, .inl f14)), (qf16, .inl (cf16, 1800, .inl f16))]) hD hS hA [0, 1, 2] rfl
  refine va_calli (va_runV (As := []) (rest := []) ⟨hx, hb, hml, hown, hts⟩ (t5_pop l dC dI H.size h0 qf0 v1 v2 v3 v4 v5 v6 v7 qf8 qf9 qf10 qf11 qf12 qf13 qf14 qf15 qf16 v17 qf18 v19 v20 cf14 f14 cf16 f16 nf u1_0 g901_1 u1_2 hu_1) (cwV 0 hts gv_h3_19 rfl rfl rfl (by decide +kernel) ⟨Nat.le_of_ble_eq_true rfl, Nat.le_of_ble_eq_true rfl⟩) ⟨fun a U g mk q => by obtain ⟨q0, q1, qP, qK, qD⟩ := q; exact ⟨q0, q1, qP, va_K.moved (u := U) (U := U.calling g mk a) (Vm.Alike.refl U.vm) qK, qD⟩, va_recv hKc hPc (ci := 5) (q0 := 0) rfl rfl, fun U hU hW => ⟨rfl, by rw [hU], by rw [hU]; exact hPc, va_K.moved hW.alike hKc, hDc.weaken (fun _ _ _ _ => trivial)⟩⟩ rfl rfl hl.1 rfl (lv_room (Nat.le_of_ble_eq_true rfl)) dX5_stepThrow_1 ⟨Nat.le_of_ble_eq_true rfl, Nat.le_of_ble_eq_true rfl⟩) hS (fun q _ h => hFc q h) hFc ?_
  clear hS
  intro r_1 u t H1 locs ht hvm hw hB hz1 hk1 hS
  obtain ⟨⟩ := u
  obtain ⟨hP1, hK1, hD1⟩ := hB
  rw [ht] at hP1
  have hK1 := va_K.moved hvm.symm hK1
  try dsimp only at hw
  have hPD := va_join (wr := []) (w1 := [(h0, .inr (5, [.ref qf0, .int u1_2, .int v2, .int v3, .int v4, .int v5, .int v6, .int v7, .ref qf8, .ref qf9, .ref qf10, .ref qf11, .ref qf12, .ref qf13, .ref qf14, .ref qf15, .ref qf16, .int v17, .ref qf18, .int v19, .int v20])), (qf14, .inl (cf14, 60, .inl g901_1)), (qf16, .inl (cf16, 1800, .inl f16))]) hP hD [0, 1, 2] [] rfl rfl (by decide) (by decide) hk1 hFc hP1 hD1
  clear hP hD
  obtain ⟨hP, hD⟩ := hPD
  replace hK := (hK.sub (tys' := []) [] rfl).app hK1
  clear hPc hDc hKc hFc hP1 hK1 hD1 hz1 hk1 ht hvm
  generalize H1 = H at hP hS ⊢
  replace hP : va_P (dC, dI) vwCl [(h0, .inr (5, [.ref qf0, .int u1_2, .int v2, .int v3, .int v4, .int v5, .int v6, .int v7, .ref qf8, .ref qf9, .ref qf10, .ref qf11, .ref qf12, .ref qf13, .ref qf14, .ref qf15, .ref qf16, .int v17, .ref qf18, .int v19, .int v20])), (qf14, .inl (cf14, 60, .inl g901_1)), (qf16, .inl (cf16, 1800, .inl f16))] H := hP
  replace hD : va_D A [(h0, .inr (5, [.ref qf0, .int u1_2, .int v2, .int v3, .int v4, .int v5, .int v6, .int v7, .ref qf8, .ref qf9, .ref qf10, .ref qf11, .ref qf12, .ref qf13, .ref qf14, .ref qf15, .ref qf16, .int v17, .ref qf18, .int v19, .int v20])), (qf14, .inl (cf14, 60, .inl g901_1)), (qf16, .inl (cf16, 1800, .inl f16))] := hD
  replace hK : va_K (dC, dI) vwCl [(cf14, .int), (cf16, .int)] s := hK
  obtain rfl := hw
  refine lv_istore_n (lv' := [(1, .int u1_0), (0, .ref h0)]) hx hb dX5_stepThrow_4 rfl hl (by decide) rfl (fun ls hl => ?_)
  refine lv_aload_n hx hb dX5_stepThrow_5 rfl (lv_at hl 1 rfl) ?_
  refine lv_iload_n hx hb dX5_stepThrow_6 rfl (lv_at hl 0 rfl) ?_
  refine lv_if_ne (tgt := 15) hx hb dX5_stepThrow_7 (by decide) (fun c_2 => ?_) (fun c_2 => ?_)
  · rw [if_neg c_2] at hsp
    refine lv_iload_n hx hb dX5_stepThrow_15 rfl (lv_at hl 0 rfl) ?_
    refine va_put (D := (dC, dI)) (ci := 5) (v := .int u1_0) (ty := .int) (C := RX5) (T := TX5) (N := 21) hx hb hts uV_h3_X5 tyX5 tyX5_ok nmX5 hown hK hP hD hS 0 rfl rfl 20 (by decide) (hts (.fieldLink RX5 86 "ClassMill$Machine" "thrown" "I") mw_h3_117) (fun _ h9 => h9) rfl (by decide +kernel) rfl rfl (Nat.le_of_ble_eq_true rfl) dX5_stepThrow_16 ?_
    clear hP hD hS
    intro H locs hP hD hS
    replace hP : va_P (dC, dI) vwCl [(h0, .inr (5, [.ref qf0, .int u1_2, .int v2, .int v3, .int v4, .int v5, .int v6, .int v7, .ref qf8, .ref qf9, .ref qf10, .ref qf11, .ref qf12, .ref qf13, .ref qf14, .ref qf15, .ref qf16, .int v17, .ref qf18, .int v19, .int u1_0])), (qf14, .inl (cf14, 60, .inl g901_1)), (qf16, .inl (cf16, 1800, .inl f16))] H := hP
    replace hD : va_D A [(h0, .inr (5, [.ref qf0, .int u1_2, .int v2, .int v3, .int v4, .int v5, .int v6, .int v7, .ref qf8, .ref qf9, .ref qf10, .ref qf11, .ref qf12, .ref qf13, .ref qf14, .ref qf15, .ref qf16, .int v17, .ref qf18, .int v19, .int u1_0])), (qf14, .inl (cf14, 60, .inl g901_1)), (qf16, .inl (cf16, 1800, .inl f16))] := hD
    have hr0 := Option.some.inj hsp
    clear hsp
    obtain ⟨hq0, hr1⟩ := Prod.mk.inj hr0
    clear hr0
    obtain ⟨hq1, hr2⟩ := Prod.mk.inj hr1
    clear hr1
    subst hq0
    subst hq1
    subst hr2
    have hP9 := hP.sub (ws' := [(h0, .inr (5, [.ref qf0, .int u1_2, .int v2, .int v3, .int v4, .int v5, .int v6, .int v7, .ref qf8, .ref qf9, .ref qf10, .ref qf11, .ref qf12, .ref qf13, .ref qf14, .ref qf15, .ref qf16, .int v17, .ref qf18, .int v19, .int u1_0])), (qf14, .inl (cf14, 60, .inl g901_1)), (qf16, .inl (cf16, 1800, .inl f16))]) [0, 1, 2] rfl
    have hD9 := hD.sub (ws' := [(h0, .inr (5, [.ref qf0, .int u1_2, .int v2, .int v3, .int v4, .int v5, .int v6, .int v7, .ref qf8, .ref qf9, .ref qf10, .ref qf11, .ref qf12, .ref qf13, .ref qf14, .ref qf15, .ref qf16, .int v17, .ref qf18, .int v19, .int u1_0])), (qf14, .inl (cf14, 60, .inl g901_1)), (qf16, .inl (cf16, 1800, .inl f16))]) [0, 1, 2] (by decide) rfl
    have hK9 := hK.sub (tys' := [(cf14, .int), (cf16, .int)]) [0, 1] rfl
    exact W.vret hx hb hr (fun t ht hW => ⟨⟨(), rfl, trivial, by rw [ht]; exact hP9, va_K.moved hW.alike hK9, hD9⟩, hS.F ht⟩) hS.2.2 dX5_stepThrow_19
  · rw [if_pos c_2] at hsp
    refine lv_bipush (v := (-2)) hx hb dX5_stepThrow_10 (by decide) ?_
    refine lv_goto (tgt := 16) hx hb dX5_stepThrow_12 (by decide) ?_
    refine va_put (D := (dC, dI)) (ci := 5) (v := .int (-2)) (ty := .int) (C := RX5) (T := TX5) (N := 21) hx hb hts uV_h3_X5 tyX5 tyX5_ok nmX5 hown hK hP hD hS 0 rfl rfl 20 (by decide) (hts (.fieldLink RX5 86 "ClassMill$Machine" "thrown" "I") mw_h3_117) (fun _ h9 => h9) rfl (by decide +kernel) rfl rfl (Nat.le_of_ble_eq_true rfl) dX5_stepThrow_16 ?_
    clear hP hD hS
    intro H locs hP hD hS
    replace hP : va_P (dC, dI) vwCl [(h0, .inr (5, [.ref qf0, .int u1_2, .int v2, .int v3, .int v4, .int v5, .int v6, .int v7, .ref qf8, .ref qf9, .ref qf10, .ref qf11, .ref qf12, .ref qf13, .ref qf14, .ref qf15, .ref qf16, .int v17, .ref qf18, .int v19, .int (-2)])), (qf14, .inl (cf14, 60, .inl g901_1)), (qf16, .inl (cf16, 1800, .inl f16))] H := hP
    replace hD : va_D A [(h0, .inr (5, [.ref qf0, .int u1_2, .int v2, .int v3, .int v4, .int v5, .int v6, .int v7, .ref qf8, .ref qf9, .ref qf10, .ref qf11, .ref qf12, .ref qf13, .ref qf14, .ref qf15, .ref qf16, .int v17, .ref qf18, .int v19, .int (-2)])), (qf14, .inl (cf14, 60, .inl g901_1)), (qf16, .inl (cf16, 1800, .inl f16))] := hD
    have hr0 := Option.some.inj hsp
    clear hsp
    obtain ⟨hq0, hr1⟩ := Prod.mk.inj hr0
    clear hr0
    obtain ⟨hq1, hr2⟩ := Prod.mk.inj hr1
    clear hr1
    subst hq0
    subst hq1
    subst hr2
    have hP9 := hP.sub (ws' := [(h0, .inr (5, [.ref qf0, .int u1_2, .int v2, .int v3, .int v4, .int v5, .int v6, .int v7, .ref qf8, .ref qf9, .ref qf10, .ref qf11, .ref qf12, .ref qf13, .ref qf14, .ref qf15, .ref qf16, .int v17, .ref qf18, .int v19, .int (-2)])), (qf14, .inl (cf14, 60, .inl g901_1)), (qf16, .inl (cf16, 1800, .inl f16))]) [0, 1, 2] rfl
    have hD9 := hD.sub (ws' := [(h0, .inr (5, [.ref qf0, .int u1_2, .int v2, .int v3, .int v4, .int v5, .int v6, .int v7, .ref qf8, .ref qf9, .ref qf10, .ref qf11, .ref qf12, .ref qf13, .ref qf14, .ref qf15, .ref qf16, .int v17, .ref qf18, .int v19, .int (-2)])), (qf14, .inl (cf14, 60, .inl g901_1)), (qf16, .inl (cf16, 1800, .inl f16))]) [0, 1, 2] (by decide) rfl
    have hK9 := hK.sub (tys' := [(cf14, .int), (cf16, .int)]) [0, 1] rfl
    exact W.vret hx hb hr (fun t ht hW => ⟨⟨(), rfl, trivial, by rw [ht]; exact hP9, va_K.moved hW.alike hK9, hD9⟩, hS.F ht⟩) hS.2.2 dX5_stepThrow_19
def sp_t5_stepJump (nf : Nat) (a1 : Int32) (a2 : Int32) (v1 : Int32) (v17 : Int32) (v19 : Int32) (v18_1 : Int32) (nb : Nat) (f18_0 : Nat → Int32) (f13 : Nat → Int32) (f14 : Nat → Int32) (f16 : Nat → Int32) : Option ((Nat → Int32) × (Nat → Int32) × Int32) := (if a1 = 153 then ((sp_t5_pop nf v1 v17 f14 f16).bind (fun p13 => (if p13.1 = 0 then ((sp_ti_pairAt nf ((v19 + a2) + 1) v18_1 nb f18_0).bind (fun p15 => ((sp_t5_goOn nf ((p15 : Int32).toInt16.toInt32) v17 f13).bind (fun p16 => (some (p16, p13.2.1, p13.2.2)))))) else ((sp_t5_goOn nf 3 v17 f13).bind (fun p14 => (some (p14, p13.2.1, p13.2.2))))))) else (if a1 = 154 then ((sp_t5_pop nf v1 v17 f14 f16).bind (fun p9 => (if p9.1 = 0 then ((sp_t5_goOn nf 3 v17 f13).bind (fun p10 => (some (p10, p9.2.1, p9.2.2)))) else ((sp_ti_pairAt nf ((v19 + a2) + 1) v18_1 nb f18_0).bind (fun p11 => ((sp_t5_goOn nf ((p11 : Int32).toInt16.toInt32) v17 f13).bind (fun p12 => (some (p12, p9.2.1, p9.2.2))))))))) else (if a1 = 167 then ((sp_ti_pairAt nf ((v19 + a2) + 1) v18_1 nb f18_0).bind (fun p1 => ((sp_t5_goOn nf ((p1 : Int32).toInt16.toInt32) v17 f13).bind (fun p2 => (some (p2, f14, v1)))))) else ((sp_t5_pop nf v1 v17 f14 f16).bind (fun p3 => ((sp_t5_pop nf p3.2.2 v17 p3.2.1 f16).bind (fun p4 => ((sp_t5_compares nf a1 p4.1 p3.1).bind (fun p5 => (if p5 = 0 then ((sp_t5_goOn nf 3 v17 f13).bind (fun p6 => (some (p6, p4.2.1, p4.2.2)))) else ((sp_ti_pairAt nf ((v19 + a2) + 1) v18_1 nb f18_0).bind (fun p7 => ((sp_t5_goOn nf ((p7 : Int32).toInt16.toInt32) v17 f13).bind (fun p8 => (some (p8, p4.2.1, p4.2.2))))))))))))))))
set_option maxHeartbeats 4000000 in
set_option maxRecDepth 100000 in
/-- ClassMill$Machine.stepJump -/
theorem t5_stepJump (l : Launch) (dC : Nat → ClassId) (dI : Nat → Nat → Nat) (sz : Nat) (h0 : Nat) (a1 : Int32) (a2 : Int32) (qf0 : Nat) (v1 : Int32) (v2 : Int32) (v3 : Int32) (v4 : Int32) (v5 : Int32) (v6 : Int32) (v7 : Int32) (qf8 : Nat) (qf9 : Nat) (qf10 : Nat) (qf11 : Nat) (qf12 : Nat) (qf13 : Nat) (qf14 : Nat) (qf15 : Nat) (qf16 : Nat) (v17 : Int32) (qf18 : Nat) (v19 : Int32) (v20 : Int32) (qf18_0 : Nat) (v18_1 : Int32) (v18_2 : Int32) (v18_3 : Int32) (qf18_4 : Nat) (qf18_5 : Nat) (qf18_6 : Nat) (v18_7 : Int32) (v18_8 : Int32) (v18_9 : Int32) (v18_10 : Int32) (qf18_11 : Nat) (v18_12 : Int32) (qf18_13 : Nat) (cf18_0 : ClassId) (nb : Nat) (f18_0 : (Nat → Int32)) (cf13 : ClassId) (f13 : (Nat → Int32)) (cf14 : ClassId) (f14 : (Nat → Int32)) (cf16 : ClassId) (f16 : (Nat → Int32)) (nf : Nat) (o13 : (Nat → Int32)) (o14 : (Nat → Int32)) (w1 : Int32) (hsp : sp_t5_stepJump nf a1 a2 v1 v17 v19 v18_1 nb f18_0 f13 f14 f16 = some (o13, o14, w1)) : Met l yX5_stepJump (.code yX5_stepJump cX5_stepJump 6 none :: VS_h3) ({ frames := 2, cells := 0, slots := 0, locals := 42 }) (va_Pc [.ref h0, .int a1, .int a2] (fun U => U.heap.size = sz ∧ va_P (dC, dI) vwCl [(h0, .inr (5, [.ref qf0, .int v1, .int v2, .int v3, .int v4, .int v5, .int v6, .int v7, .ref qf8, .ref qf9, .ref qf10, .ref qf11, .ref qf12, .ref qf13, .ref qf14, .ref qf15, .ref qf16, .int v17, .ref qf18, .int v19, .int v20])), (qf18, .inr (3, [.ref qf18_0, .int v18_1, .int v18_2, .int v18_3, .ref qf18_4, .ref qf18_5, .ref qf18_6, .int v18_7, .int v18_8, .int v18_9, .int v18_10, .ref qf18_11, .int v18_12, .ref qf18_13])), (qf18_0, .inl (cf18_0, nb, .inl f18_0)), (qf13, .inl (cf13, 60, .inl f13)), (qf14, .inl (cf14, 60, .inl f14)), (qf16, .inl (cf16, 1800, .inl f16))] U.heap ∧ va_K (dC, dI) vwCl [(cf18_0, .byte), (cf13, .int), (cf14, .int), (cf16, .int)] U ∧ va_D (fun _ => True) [(h0, .inr (5, [.ref qf0, .int v1, .int v2, .int v3, .int v4, .int v5, .int v6, .int v7, .ref qf8, .ref qf9, .ref qf10, .ref qf11, .ref qf12, .ref qf13, .ref qf14, .ref qf15, .ref qf16, .int v17, .ref qf18, .int v19, .int v20])), (qf18, .inr (3, [.ref qf18_0, .int v18_1, .int v18_2, .int v18_3, .ref qf18_4, .ref qf18_5, .ref qf18_6, .int v18_7, .int v18_8, .int v18_9, .int v18_10, .ref qf18_11, .int v18_12, .ref qf18_13])), (qf18_0, .inl (cf18_0, nb, .inl f18_0)), (qf13, .inl (cf13, 60, .inl f13)), (qf14, .inl (cf14, 60, .inl f14)), (qf16, .inl (cf16, 1800, .inl f16))])) (va_Qv (fun (u : Unit) => match u with | () => True) (fun (u : Unit) (t : State) => match u with | () => va_P (dC, dI) vwCl [(h0, .inr (5, [.ref qf0, .int w1, .int v2, .int v3, .int v4, .int v5, .int v6, .int v7, .ref qf8, .ref qf9, .ref qf10, .ref qf11, .ref qf12, .ref qf13, .ref qf14, .ref qf15, .ref qf16, .int v17, .ref qf18, .int v19, .int v20])), (qf18, .inr (3, [.ref qf18_0, .int v18_1, .int v18_2, .int v18_3, .ref qf18_4, .ref qf18_5, .ref qf18_6, .int v18_7, .int v18_8, .int v18_9, .int v18_10, .ref qf18_11, .int v18_12, .ref qf18_13])), (qf18_0, .inl (cf18_0, nb, .inl f18_0)), (qf13, .inl (cf13, 60, .inl o13)), (qf14, .inl (cf14, 60, .inl o14)), (qf16, .inl (cf16, 1800, .inl f16))] t.heap ∧ va_K (dC, dI) vwCl [(cf18_0, .byte), (cf13, .int), (cf14, .int), (cf16, .int)] t ∧ va_D (va_A [(h0, .inr (5, [.ref qf0, .int v1, .int v2, .int v3, .int v4, .int v5, .int v6, .int v7, .ref qf8, .ref qf9, .ref qf10, .ref qf11, .ref qf12, .ref qf13, .ref qf14, .ref qf15, .ref qf16, .int v17, .ref qf18, .int v19, .int v20])), (qf18, .inr (3, [.ref qf18_0, .int v18_1, .int v18_2, .int v18_3, .ref qf18_4, .ref qf18_5, .ref qf18_6, .int v18_7, .int v18_8, .int v18_9, .int v18_10, .ref qf18_11, .int v18_12, .ref qf18_13])), (qf18_0, .inl (cf18_0, nb, .inl f18_0)), (qf13, .inl (cf13, 60, .inl f13)), (qf14, .inl (cf14, 60, .inl f14)), (qf16, .inl (cf16, 1800, .inl f16))] sz) [(h0, .inr (5, [.ref qf0, .int w1, .int v2, .int v3, .int v4, .int v5, .int v6, .int v7, .ref qf8, .ref qf9, .ref qf10, .ref qf11, .ref qf12, .ref qf13, .ref qf14, .ref qf15, .ref qf16, .int v17, .ref qf18, .int v19, .int v20])), (qf18, .inr (3, [.ref qf18_0, .int v18_1, .int v18_2, .int v18_3, .ref qf18_4, .ref qf18_5, .ref qf18_6, .int v18_7, .int v18_8, .int v18_9, .int v18_10, .ref qf18_11, .int v18_12, .ref qf18_13])), (qf18_0, .inl (cf18_0, nb, .inl f18_0)), (qf13, .inl (cf13, 60, .inl o13)), (qf14, .inl (cf14, 60, .inl o14)), (qf16, .inl (cf16, 1800, .inl f16))]) (va_A [(h0, .inr (5, [.ref qf0, .int v1, .int v2, .int v3, .int v4, .int v5, .int v6, .int v7, .ref qf8, .ref qf9, .ref qf10, .ref qf11, .ref qf12, .ref qf13, .ref qf14, .ref qf15, .ref qf16, .int v17, .ref qf18, .int v19, .int v20])), (qf18, .inr (3, [.ref qf18_0, .int v18_1, .int v18_2, .int v18_3, .ref qf18_4, .ref qf18_5, .ref qf18_6, .int v18_7, .int v18_8, .int v18_9, .int v18_10, .ref qf18_11, .int v18_12, .ref qf18_13])), (qf18_0, .inl (cf18_0, nb, .inl f18_0)), (qf13, .inl (cf13, 60, .inl f13)), (qf14, .inl (cf14, 60, .inl f14)), (qf16, .inl (cf16, 1800, .inl f16))] sz)) 0 0 (va_A [(h0, .inr (5, [.ref qf0, .int v1, .int v2, .int v3, .int v4, .int v5, .int v6, .int v7, .ref qf8, .ref qf9, .ref qf10, .ref qf11, .ref qf12, .ref qf13, .ref qf14, .ref qf15, .ref qf16, .int v17, .ref qf18, .int v19, .int v20])), (qf18, .inr (3, [.ref qf18_0, .int v18_1, .int v18_2, .int v18_3, .ref qf18_4, .ref qf18_5, .ref qf18_6, .int v18_7, .int v18_8, .int v18_9, .int v18_10, .ref qf18_11, .int v18_12, .ref qf18_13])), (qf18_0, .inl (cf18_0, nb, .inl f18_0)), (qf13, .inl (cf13, 60, .inl f13)), (qf14, .inl (cf14, 60, .inl f14)), (qf16, .inl (cf16, 1800, .inl f16))] sz) := by
  refine Met.ofW (cc := cX5_stepJump) (maxL := 6) (ret := none) (by decide) rfl ?_
  intro p e s m args below meth c s₁ B hml hv
  obtain ⟨rfl, hsz, hP, hK, hD0⟩ := hv
  have hx := B.exec
  have hb := B.bytes
  have hr := B.returns
  have hts := atoms_spec (ws := (.code yX5_stepJump cX5_stepJump 6 none :: VS_h3)) B.pre
  replace hts := fun w (h : w ∈ VS_h3) => hts w (List.mem_cons_of_mem _ h)
  have hown : s.vm.findClass RX5 = some m.cls := findClass_of_methodNamed B.named
  have hlocks := B.notSynchronized
  subst hsz
  have hD := hD0.self (sz := s.heap.size)
  generalize hAe : va_A [(h0, .inr (5, [.ref qf0, .int v1, .int v2, .int v3, .int v4, .int v5, .int v6, .int v7, .ref qf8, .ref qf9, .ref qf10, .ref qf11, .ref qf12, .ref qf13, .ref qf14, .ref qf15, .ref qf16, .int v17, .ref qf18, .int v19, .int v20])), (qf18, .inr (3, [.ref qf18_0, .int v18_1, .int v18_2, .int v18_3, .ref qf18_4, .ref qf18_5, .ref qf18_6, .int v18_7, .int v18_8, .int v18_9, .int v18_10, .ref qf18_11, .int v18_12, .ref qf18_13])), (qf18_0, .inl (cf18_0, nb, .inl f18_0)), (qf13, .inl (cf13, 60, .inl f13)), (qf14, .inl (cf14, 60, .inl f14)), (qf16, .inl (cf16, 1800, .inl f16))] s.heap.size = A at hD  ⊢
  have hA : ∀ q : Nat, s.heap.size ≤ q → A q := fun q h => by rw [← hAe]; exact Or.inr h
  have hP : va_P (dC, dI) vwCl [(h0, .inr (5, [.ref qf0, .int v1, .int v2, .int v3, .int v4, .int v5, .int v6, .int v7, .ref qf8, .ref qf9, .ref qf10, .ref qf11, .ref qf12, .ref qf13, .ref qf14, .ref qf15, .ref qf16, .int v17, .ref qf18, .int v19, .int v20])), (qf18, .inr (3, [.ref qf18_0, .int v18_1, .int v18_2, .int v18_3, .ref qf18_4, .ref qf18_5, .ref qf18_6, .int v18_7, .int v18_8, .int v18_9, .int v18_10, .ref qf18_11, .int v18_12, .ref qf18_13])), (qf18_0, .inl (cf18_0, nb, .inl f18_0)), (qf13, .inl (cf13, 60, .inl f13)), (qf14, .inl (cf14, 60, .inl f14)), (qf16, .inl (cf16, 1800, .inl f16))] s.heap := hP
  have hl := lv_entry ([.ref h0, .int a1, .int a2]) (n := 6) (Nat.le_of_ble_eq_true rfl)
  rw [lg_entry_eq]
  generalize (lg_sl ([.ref h0, .int a1, .int a2]) ++ List.replicate (6 - (lg_sl ([.ref h0, .int a1, .int a2])).length) Slot.unset).toArray = ls at hl ⊢
  have hl : lv_has ls 6 [(0, .ref h0), (1, .int a1), (2, .int a2)] := hl
  obtain ⟨H, hH⟩ : ∃ H : Heap, s.heap = H := ⟨_, rfl⟩
  rw [hH] at hP ⊢
  have hS : va_S A s.heap H [] := by rw [← hH]; exact va_S.rf
  obtain ⟨locs, hlo⟩ : ∃ locs : List Loc, locs = [] := ⟨_, rfl⟩
  rw [← hlo] at hS ⊢
  unfold sp_t5_stepJump at hsp
  refine lv_iconst (v := 1) hx hb dX5_stepJump_0 (by decide) ?_
  refine lv_istore_n (lv' := [(3, .int 1), (0, .ref h0), (1, .int a1), (2, .int a2)]) hx hb dX5_stepJump_1 rfl hl (by decide) rfl (fun ls hl => ?_)
  refine lv_iload_n hx hb dX5_stepJump_2 rfl (lv_at hl 2 rfl) ?_
  refine lv_sipush (v := 153) hx hb dX5_stepJump_3 (by decide) ?_
  refine lv_icmp_ne (tgt := 25) hx hb dX5_stepJump_6 (by decide) (fun c_1 => ?_) (fun c_1 => ?_)
  · rw [if_neg c_1] at hsp
    refine lv_iload_n hx hb dX5_stepJump_25 rfl (lv_at hl 2 rfl) ?_
    refine lv_sipush (v := 154) hx hb dX5_stepJump_26 (by decide) ?_
    refine lv_icmp_ne (tgt := 48) hx hb dX5_stepJump_29 (by decide) (fun c_2 => ?_) (fun c_2 => ?_)
    · rw [if_neg c_2] at hsp
      refine lv_iload_n hx hb dX5_stepJump_48 rfl (lv_at hl 2 rfl) ?_
      refine lv_sipush (v := 167) hx hb dX5_stepJump_49 (by decide) ?_
      refine lv_icmp_eq (tgt := 76) hx hb dX5_stepJump_52 (by decide) (fun c_3 => ?_) (fun c_3 => ?_)
      · rw [if_pos c_3] at hsp
        refine lv_aload_n hx hb dX5_stepJump_76 rfl (lv_at hl 1 rfl) ?_
        refine lv_iload_n hx hb dX5_stepJump_77 rfl (lv_at hl 0 rfl) ?_
        refine lv_if_eq (tgt := 100) hx hb dX5_stepJump_78 (by decide) (fun c_4 => (show False by revert c_4; decide).elim) (fun c_4 => ?_)
        refine lv_aload_n hx hb dX5_stepJump_81 rfl (lv_at hl 1 rfl) ?_
        refine va_get (D := (dC, dI)) (ci := 5) (v := .ref qf18) (C := RX5) (T := TX5) (N := 21) hx hb hts uV_h3_X5 hown hK hP 0 rfl rfl 18 (by decide) (hts (.fieldLink RX5 46 "ClassMill$Machine" "image" "LClassMill$Image;") mw_h3_138) (fun _ h9 => h9) rfl dX5_stepJump_82 ?_
        refine lv_aload_n hx hb dX5_stepJump_85 rfl (lv_at hl 1 rfl) ?_
        refine va_get (D := (dC, dI)) (ci := 5) (v := .int v19) (C := RX5) (T := TX5) (N := 21) hx hb hts uV_h3_X5 hown hK hP 0 rfl rfl 19 (by decide) (hts (.fieldLink RX5 129 "ClassMill$Machine" "code" "I") mw_h3_139) (fun _ h9 => h9) rfl dX5_stepJump_86 ?_
        refine lv_iload_n hx hb dX5_stepJump_89 rfl (lv_at hl 3 rfl) ?_
        refine lv_iadd hx hb dX5_stepJump_90 ?_
        refine lv_iconst (v := 1) hx hb dX5_stepJump_91 (by decide) ?_
        refine lv_iadd hx hb dX5_stepJump_92 ?_
        obtain ⟨u1_0, hu_1, hsp⟩ := ox_bind hsp
        try dsimp only at hsp
        have hPc := hP.sub (ws' := [(qf18, .inr (3, [.ref qf18_0, .int v18_1, .int v18_2, .int v18_3, .ref qf18_4, .ref qf18_5, .ref qf18_6, .int v18_7, .int v18_8, .int v18_9, .int v18_10, .ref qf18_11, .int v18_12, .ref qf18_13])), (qf18_0, .inl (cf18_0, nb, .inl f18_0))]) [1, 2] rfl
        have hDc := hD.sub (ws' := [(qf18, .inr (3, [.ref qf18_0, .int v18_1, .int v18_2, .int v18_3, .ref qf18_4, .ref qf18_5, .ref qf18_6, .int v18_7, .int v18_8, .int v18_9, .int v18_10, .ref qf18_11, .int v18_12, .ref qf18_13])), (qf18_0, .inl (cf18_0, nb, .inl f18_0))]) [1, 2] (by decide) rfl
        have hKc := hK.sub (tys' := [(cf18_0, .byte)]) [0] rfl
        have hFc := va_free (wc := [(qf18, .inr (3, [.ref qf18_0, .int v18_1, .int v18_2, .int v18_3, .ref qf18_4, .ref qf18_5, .ref qf18_6, .int v18_7, .int v18_8, .int v18_9, .int v18_10, .ref qf18_11, .int v18_12, .ref qf18_13])), (qf18_0, .inl (cf18_0, nb, .inl f18_0))]) hD hS hA [1, 2] rfl
        refine va_calli (va_runV (As := [.int ((v19 + a2) + 1)]) (rest := [.ref h0]) ⟨hx, hb, hml, hown, hts⟩ (ti_pairAt l dC dI H.size qf18 (((v19 + a2) + 1)) qf18_0 v18_1 v18_2 v18_3 qf18_4 qf18_5 qf18_6 v18_7 v18_8 v18_9 v18_10 qf18_11 v18_12 qf18_13 cf18_0 nb f18_0 nf u1_0 hu_1) (cwV 1 hts gv_h3_20 rfl rfl rfl (by decide +kernel) ⟨Nat.le_of_ble_eq_true rfl, Nat.le_of_ble_eq_true rfl⟩) ⟨fun a U g mk q => by obtain ⟨q0, q1, qP, qK, qD⟩ := q; exact ⟨q0, q1, qP, va_K.moved (u := U) (U := U.calling g mk a) (Vm.Alike.refl U.vm) qK, qD⟩, va_recv hKc hPc (ci := 3) (q0 := 0) rfl rfl, fun U hU hW => ⟨rfl, by rw [hU], by rw [hU]; exact hPc, va_K.moved hW.alike hKc, hDc.weaken (fun _ _ _ _ => trivial)⟩⟩ rfl rfl hl.1 rfl (lv_room (Nat.le_of_ble_eq_true rfl)) dX5_stepJump_93 ⟨Nat.le_of_ble_eq_true rfl, Nat.le_of_ble_eq_true rfl⟩) hS (fun q _ h => hFc q h) hFc ?_
        clear hS
        intro r_5 u t H1 locs ht hvm hw hB hz1 hk1 hS
        obtain ⟨⟩ := u
        obtain ⟨hP1, hK1, hD1⟩ := hB
        rw [ht] at hP1
        have hK1 := va_K.moved hvm.symm hK1
        try dsimp only at hw
        have hPD := va_join (wr := [(h0, .inr (5, [.ref qf0, .int v1, .int v2, .int v3, .int v4, .int v5, .int v6, .int v7, .ref qf8, .ref qf9, .ref qf10, .ref qf11, .ref qf12, .ref qf13, .ref qf14, .ref qf15, .ref qf16, .int v17, .ref qf18, .int v19, .int v20])), (qf13, .inl (cf13, 60, .inl f13)), (qf14, .inl (cf14, 60, .inl f14)), (qf16, .inl (cf16, 1800, .inl f16))]) (w1 := [(qf18, .inr (3, [.ref qf18_0, .int v18_1, .int v18_2, .int v18_3, .ref qf18_4, .ref qf18_5, .ref qf18_6, .int v18_7, .int v18_8, .int v18_9, .int v18_10, .ref qf18_11, .int v18_12, .ref qf18_13])), (qf18_0, .inl (cf18_0, nb, .inl f18_0))]) hP hD [1, 2] [0, 3, 4, 5] rfl rfl (by decide) (by decide) hk1 hFc hP1 hD1
        clear hP hD
        obtain ⟨hP, hD⟩ := hPD
        replace hK := (hK.sub (tys' := [(cf13, .int), (cf14, .int), (cf16, .int)]) [1, 2, 3] rfl).app hK1
        clear hPc hDc hKc hFc hP1 hK1 hD1 hz1 hk1 ht hvm
        generalize H1 = H at hP hS ⊢
        replace hP : va_P (dC, dI) vwCl [(h0, .inr (5, [.ref qf0, .int v1, .int v2, .int v3, .int v4, .int v5, .int v6, .int v7, .ref qf8, .ref qf9, .ref qf10, .ref qf11, .ref qf12, .ref qf13, .ref qf14, .ref qf15, .ref qf16, .int v17, .ref qf18, .int v19, .int v20])), (qf13, .inl (cf13, 60, .inl f13)), (qf14, .inl (cf14, 60, .inl f14)), (qf16, .inl (cf16, 1800, .inl f16)), (qf18, .inr (3, [.ref qf18_0, .int v18_1, .int v18_2, .int v18_3, .ref qf18_4, .ref qf18_5, .ref qf18_6, .int v18_7, .int v18_8, .int v18_9, .int v18_10, .ref qf18_11, .int v18_12, .ref qf18_13])), (qf18_0, .inl (cf18_0, nb, .inl f18_0))] H := hP
        replace hD : va_D A [(h0, .inr (5, [.ref qf0, .int v1, .int v2, .int v3, .int v4, .int v5, .int v6, .int v7, .ref qf8, .ref qf9, .ref qf10, .ref qf11, .ref qf12, .ref qf13, .ref qf14, .ref qf15, .ref qf16, .int v17, .ref qf18, .int v19, .int v20])), (qf13, .inl (cf13, 60, .inl f13)), (qf14, .inl (cf14, 60, .inl f14)), (qf16, .inl (cf16, 1800, .inl f16)), (qf18, .inr (3, [.ref qf18_0, .int v18_1, .int v18_2, .int v18_3, .ref qf18_4, .ref qf18_5, .ref qf18_6, .int v18_7, .int v18_8, .int v18_9, .int v18_10, .ref qf18_11, .int v18_12, .ref qf18_13])), (qf18_0, .inl (cf18_0, nb, .inl f18_0))] := hD
        replace hK : va_K (dC, dI) vwCl [(cf13, .int), (cf14, .int), (cf16, .int), (cf18_0, .byte)] s := hK
        obtain rfl := hw
        refine lv_i2s hx hb dX5_stepJump_96 rfl ?_
        refine lv_goto (tgt := 101) hx hb dX5_stepJump_97 (by decide) ?_
        obtain ⟨g902_0, hu_2, hsp⟩ := ox_bind hsp
        try dsimp only at hsp
        have hPc := hP.sub (ws' := [(h0, .inr (5, [.ref qf0, .int v1, .int v2, .int v3, .int v4, .int v5, .int v6, .int v7, .ref qf8, .ref qf9, .ref qf10, .ref qf11, .ref qf12, .ref qf13, .ref qf14, .ref qf15, .ref qf16, .int v17, .ref qf18, .int v19, .int v20])), (qf13, .inl (cf13, 60, .inl f13))]) [0, 1] rfl
        have hDc := hD.sub (ws' := [(h0, .inr (5, [.ref qf0, .int v1, .int v2, .int v3, .int v4, .int v5, .int v6, .int v7, .ref qf8, .ref qf9, .ref qf10, .ref qf11, .ref qf12, .ref qf13, .ref qf14, .ref qf15, .ref qf16, .int v17, .ref qf18, .int v19, .int v20])), (qf13, .inl (cf13, 60, .inl f13))]) [0, 1] (by decide) rfl
        have hKc := hK.sub (tys' := [(cf13, .int)]) [0] rfl
        have hFc := va_free (wc := [(h0, .inr (5, [.ref qf0, .int v1, .int v2, .int v3, .int v4, .int v5, .int v6, .int v7, .ref qf8, .ref qf9, .ref qf10, .ref qf11, .ref qf12, .ref qf13, .ref qf14, .ref qf15, .ref qf16, .int v17, .ref qf18, .int v19, .int v20])), (qf13, .inl (cf13, 60, .inl f13))]) hD hS hA [0, 1] rfl
        refine va_callv (va_runV (As := [.int ((u1_0 : Int32).toInt16.toInt32)]) (rest := []) ⟨hx, hb, hml, hown, hts⟩ (t5_goOn l dC dI H.size h0 (((u1_0 : Int32).toInt16.toInt32)) qf0 v1 v2 v3 v4 v5 v6 v7 qf8 qf9 qf10 qf11 qf12 qf13 qf14 qf15 qf16 v17 qf18 v19 v20 cf13 f13 nf g902_0 hu_2) (cwV 1 hts gv_h3_16 rfl rfl rfl (by decide +kernel) ⟨Nat.le_of_ble_eq_true rfl, Nat.le_of_ble_eq_true rfl⟩) ⟨fun a U g mk q => by obtain ⟨q0, q1, qP, qK, qD⟩ := q; exact ⟨q0, q1, qP, va_K.moved (u := U) (U := U.calling g mk a) (Vm.Alike.refl U.vm) qK, qD⟩, va_recv hKc hPc (ci := 5) (q0 := 0) rfl rfl, fun U hU hW => ⟨rfl, by rw [hU], by rw [hU]; exact hPc, va_K.moved hW.alike hKc, hDc.weaken (fun _ _ _ _ => trivial)⟩⟩ rfl rfl hl.1 rfl (lv_room (Nat.le_of_ble_eq_true rfl)) dX5_stepJump_101 ⟨Nat.le_of_ble_eq_true rfl, Nat.le_of_ble_eq_true rfl⟩) hS (fun q _ h => hFc q h) hFc ?_
        clear hS
        intro u t H1 locs ht hvm hw hB hz1 hk1 hS
        obtain ⟨⟩ := u
        obtain ⟨hP1, hK1, hD1⟩ := hB
        rw [ht] at hP1
        have hK1 := va_K.moved hvm.symm hK1
        try dsimp only at hw
        have hPD := va_join (wr := [(qf14, .inl (cf14, 60, .inl f14)), (qf16, .inl (cf16, 1800, .inl f16)), (qf18, .inr (3, [.ref qf18_0, .int v18_1, .int v18_2, .int v18_3, .ref qf18_4, .ref qf18_5, .ref qf18_6, .int v18_7, .int v18_8, .int v18_9, .int v18_10, .ref qf18_11, .int v18_12, .ref qf18_13])), (qf18_0, .inl (cf18_0, nb, .inl f18_0))]) (w1 := [(h0, .inr (5, [.ref qf0, .int v1, .int v2, .int v3, .int v4, .int v5, .int v6, .int v7, .ref qf8, .ref qf9, .ref qf10, .ref qf11, .ref qf12, .ref qf13, .ref qf14, .ref qf15, .ref qf16, .int v17, .ref qf18, .int v19, .int v20])), (qf13, .inl (cf13, 60, .inl g902_0))]) hP hD [0, 1] [2, 3, 4, 5] rfl rfl (by decide) (by decide) hk1 hFc hP1 hD1
        clear hP hD
        obtain ⟨hP, hD⟩ := hPD
        replace hK := (hK.sub (tys' := [(cf14, .int), (cf16, .int), (cf18_0, .byte)]) [1, 2, 3] rfl).app hK1
        clear hPc hDc hKc hFc hP1 hK1 hD1 hz1 hk1 ht hvm
        generalize H1 = H at hP hS ⊢
        replace hP : va_P (dC, dI) vwCl [(qf14, .inl (cf14, 60, .inl f14)), (qf16, .inl (cf16, 1800, .inl f16)), (qf18, .inr (3, [.ref qf18_0, .int v18_1, .int v18_2, .int v18_3, .ref qf18_4, .ref qf18_5, .ref qf18_6, .int v18_7, .int v18_8, .int v18_9, .int v18_10, .ref qf18_11, .int v18_12, .ref qf18_13])), (qf18_0, .inl (cf18_0, nb, .inl f18_0)), (h0, .inr (5, [.ref qf0, .int v1, .int v2, .int v3, .int v4, .int v5, .int v6, .int v7, .ref qf8, .ref qf9, .ref qf10, .ref qf11, .ref qf12, .ref qf13, .ref qf14, .ref qf15, .ref qf16, .int v17, .ref qf18, .int v19, .int v20])), (qf13, .inl (cf13, 60, .inl g902_0))] H := hP
        replace hD : va_D A [(qf14, .inl (cf14, 60, .inl f14)), (qf16, .inl (cf16, 1800, .inl f16)), (qf18, .inr (3, [.ref qf18_0, .int v18_1, .int v18_2, .int v18_3, .ref qf18_4, .ref qf18_5, .ref qf18_6, .int v18_7, .int v18_8, .int v18_9, .int v18_10, .ref qf18_11, .int v18_12, .ref qf18_13])), (qf18_0, .inl (cf18_0, nb, .inl f18_0)), (h0, .inr (5, [.ref qf0, .int v1, .int v2, .int v3, .int v4, .int v5, .int v6, .int v7, .ref qf8, .ref qf9, .ref qf10, .ref qf11, .ref qf12, .ref qf13, .ref qf14, .ref qf15, .ref qf16, .int v17, .ref qf18, .int v19, .int v20])), (qf13, .inl (cf13, 60, .inl g902_0))] := hD
        replace hK : va_K (dC, dI) vwCl [(cf14, .int), (cf16, .int), (cf18_0, .byte), (cf13, .int)] s := hK
        have hr0 := Option.some.inj hsp
        clear hsp
        obtain ⟨hq0, hr1⟩ := Prod.mk.inj hr0
        clear hr0
        obtain ⟨hq1, hr2⟩ := Prod.mk.inj hr1
        clear hr1
        subst hq0
        subst hq1
        subst hr2
        have hP9 := hP.sub (ws' := [(h0, .inr (5, [.ref qf0, .int v1, .int v2, .int v3, .int v4, .int v5, .int v6, .int v7, .ref qf8, .ref qf9, .ref qf10, .ref qf11, .ref qf12, .ref qf13, .ref qf14, .ref qf15, .ref qf16, .int v17, .ref qf18, .int v19, .int v20])), (qf18, .inr (3, [.ref qf18_0, .int v18_1, .int v18_2, .int v18_3, .ref qf18_4, .ref qf18_5, .ref qf18_6, .int v18_7, .int v18_8, .int v18_9, .int v18_10, .ref qf18_11, .int v18_12, .ref qf18_13])), (qf18_0, .inl (cf18_0, nb, .inl f18_0)), (qf13, .inl (cf13, 60, .inl g902_0)), (qf14, .inl (cf14, 60, .inl f14)), (qf16, .inl (cf16, 1800, .inl f16))]) [4, 2, 3, 5, 0, 1] rfl
        have hD9 := hD.sub (ws' := [(h0, .inr (5, [.ref qf0, .int v1, .int v2, .int v3, .int v4, .int v5, .int v6, .int v7, .ref qf8, .ref qf9, .ref qf10, .ref qf11, .ref qf12, .ref qf13, .ref qf14, .ref qf15, .ref qf16, .int v17, .ref qf18, .int v19, .int v20])), (qf18, .inr (3, [.ref qf18_0, .int v18_1, .int v18_2, .int v18_3, .ref qf18_4, .ref qf18_5, .ref qf18_6, .int v18_7, .int v18_8, .int v18_9, .int v18_10, .ref qf18_11, .int v18_12, .ref qf18_13])), (qf18_0, .inl (cf18_0, nb, .inl f18_0)), (qf13, .inl (cf13, 60, .inl g902_0)), (qf14, .inl (cf14, 60, .inl f14)), (qf16, .inl (cf16, 1800, .inl f16))]) [4, 2, 3, 5, 0, 1] (by decide) rfl
        have hK9 := hK.sub (tys' := [(cf18_0, .byte), (cf13, .int), (cf14, .int), (cf16, .int)]) [2, 3, 0, 1] rfl
        exact W.vret hx hb hr (fun t ht hW => ⟨⟨(), rfl, trivial, by rw [ht]; exact hP9, va_K.moved hW.alike hK9, hD9⟩, hS.F ht⟩) hS.2.2 dX5_stepJump_104
      · rw [if_neg c_3] at hsp
        refine lv_aload_n hx hb dX5_stepJump_55 rfl (lv_at hl 1 rfl) ?_
        obtain ⟨⟨u3_0, g903_1, u3_2⟩, hu_3, hsp⟩ := ox_bind hsp
        try dsimp only at hsp
        have hPc := hP.sub (ws' := [(h0, .inr (5, [.ref qf0, .int v1, .int v2, .int v3, .int v4, .int v5, .int v6, .int v7, .ref qf8, .ref qf9, .ref qf10, .ref qf11, .ref qf12, .ref qf13, .ref qf14, .ref qf15, .ref qf16, .int v17, .ref qf18, .int v19, .int v20])), (qf14, .inl (cf14, 60, .inl f14)), (qf16, .inl (cf16, 1800, .inl f16))]) [0, 4, 5] rfl
        have hDc := hD.sub (ws' := [(h0, .inr (5, [.ref qf0, .int v1, .int v2, .int v3, .int v4, .int v5, .int v6, .int v7, .ref qf8, .ref qf9, .ref qf10, .ref qf11, .ref qf12, .ref qf13, .ref qf14, .ref qf15, .ref qf16, .int v17, .ref qf18, .int v19, .int v20])), (qf14, .inl (cf14, 60, .inl f14)), (qf16, .inl (cf16, 1800, .inl f16))]) [0, 4, 5] (by decide) rfl
        have hKc := hK.sub (tys' := [(cf14, .int), (cf16, .int)]) [2, 3] rfl
        have hFc := va_free (wc := [(h0, .inr (5, [.ref qf0, .int v1, .int v2, .int v3, .int v4, .int v5, .int v6, .int v7, .ref qf8, .ref qf9, .ref qf10, .ref qf11, .ref qf12, .ref qf13, .ref qf14, .ref qf15, .ref qf16, .int v17, .ref qf18, .int v19, .int v20])), (qf14, .inl (cf14, 60, .inl f14)), (qf16, .inl (cf16, 1800, .inl f16))]) hD hS hA [0, 4, 5] rfl
        refine va_calli (va_runV (As := []) (rest := []) ⟨hx, hb, hml, hown, hts⟩ (t5_pop l dC dI H.size h0 qf0 v1 v2 v3 v4 v5 v6 v7 qf8 qf9 qf10 qf11 qf12 qf13 qf14 qf15 qf16 v17 qf18 v19 v20 cf14 f14 cf16 f16 nf u3_0 g903_1 u3_2 hu_3) (cwV 0 hts gv_h3_19 rfl rfl rfl (by decide +kernel) ⟨Nat.le_of_ble_eq_true rfl, Nat.le_of_ble_eq_true rfl⟩) ⟨fun a U g mk q => by obtain ⟨q0, q1, qP, qK, qD⟩ := q; exact ⟨q0, q1, qP, va_K.moved (u := U) (U := U.calling g mk a) (Vm.Alike.refl U.vm) qK, qD⟩, va_recv hKc hPc (ci := 5) (q0 := 0) rfl rfl, fun U hU hW => ⟨rfl, by rw [hU], by rw [hU]; exact hPc, va_K.moved hW.alike hKc, hDc.weaken (fun _ _ _ _ => trivial)⟩⟩ rfl rfl hl.1 rfl (lv_room (Nat.le_of_ble_eq_true rfl)) dX5_stepJump_56 ⟨Nat.le_of_ble_eq_true rfl, Nat.le_of_ble_eq_true rfl⟩) hS (fun q _ h => hFc q h) hFc ?_
        clear hS
        intro r_6 u t H1 locs ht hvm hw hB hz1 hk1 hS
        obtain ⟨⟩ := u
        obtain ⟨hP1, hK1, hD1⟩ := hB
        rw [ht] at hP1
        have hK1 := va_K.moved hvm.symm hK1
        try dsimp only at hw
        have hPD := va_join (wr := [(qf18, .inr (3, [.ref qf18_0, .int v18_1, .int v18_2, .int v18_3, .ref qf18_4, .ref qf18_5, .ref qf18_6, .int v18_7, .int v18_8, .int v18_9, .int v18_10, .ref qf18_11, .int v18_12, .ref qf18_13])), (qf18_0, .inl (cf18_0, nb, .inl f18_0)), (qf13, .inl (cf13, 60, .inl f13))]) (w1 := [(h0, .inr (5, [.ref qf0, .int u3_2, .int v2, .int v3, .int v4, .int v5, .int v6, .int v7, .ref qf8, .ref qf9, .ref qf10, .ref qf11, .ref qf12, .ref qf13, .ref qf14, .ref qf15, .ref qf16, .int v17, .ref qf18, .int v19, .int v20])), (qf14, .inl (cf14, 60, .inl g903_1)), (qf16, .inl (cf16, 1800, .inl f16))]) hP hD [0, 4, 5] [1, 2, 3] rfl rfl (by decide) (by decide) hk1 hFc hP1 hD1
        clear hP hD
        obtain ⟨hP, hD⟩ := hPD
        replace hK := (hK.sub (tys' := [(cf18_0, .byte), (cf13, .int)]) [0, 1] rfl).app hK1
        clear hPc hDc hKc hFc hP1 hK1 hD1 hz1 hk1 ht hvm
        generalize H1 = H at hP hS ⊢
        replace hP : va_P (dC, dI) vwCl [(qf18, .inr (3, [.ref qf18_0, .int v18_1, .int v18_2, .int v18_3, .ref qf18_4, .ref qf18_5, .ref qf18_6, .int v18_7, .int v18_8, .int v18_9, .int v18_10, .ref qf18_11, .int v18_12, .ref qf18_13])), (qf18_0, .inl (cf18_0, nb, .inl f18_0)), (qf13, .inl (cf13, 60, .inl f13)), (h0, .inr (5, [.ref qf0, .int u3_2, .int v2, .int v3, .int v4, .int v5, .int v6, .int v7, .ref qf8, .ref qf9, .ref qf10, .ref qf11, .ref qf12, .ref qf13, .ref qf14, .ref qf15, .ref qf16, .int v17, .ref qf18, .int v19, .int v20])), (qf14, .inl (cf14, 60, .inl g903_1)), (qf16, .inl (cf16, 1800, .inl f16))] H := hP
        replace hD : va_D A [(qf18, .inr (3, [.ref qf18_0, .int v18_1, .int v18_2, .int v18_3, .ref qf18_4, .ref qf18_5, .ref qf18_6, .int v18_7, .int v18_8, .int v18_9, .int v18_10, .ref qf18_11, .int v18_12, .ref qf18_13])), (qf18_0, .inl (cf18_0, nb, .inl f18_0)), (qf13, .inl (cf13, 60, .inl f13)), (h0, .inr (5, [.ref qf0, .int u3_2, .int v2, .int v3, .int v4, .int v5, .int v6, .int v7, .ref qf8, .ref qf9, .ref qf10, .ref qf11, .ref qf12, .ref qf13, .ref qf14, .ref qf15, .ref qf16, .int v17, .ref qf18, .int v19, .int v20])), (qf14, .inl (cf14, 60, .inl g903_1)), (qf16, .inl (cf16, 1800, .inl f16))] := hD
        replace hK : va_K (dC, dI) vwCl [(cf18_0, .byte), (cf13, .int), (cf14, .int), (cf16, .int)] s := hK
        obtain rfl := hw
        refine lv_istore (lv' := [(4, .int u3_0), (3, .int 1), (0, .ref h0), (1, .int a1), (2, .int a2)]) hx hb dX5_stepJump_59 hl (by decide) rfl (fun ls hl => ?_)
        refine lv_aload_n hx hb dX5_stepJump_61 rfl (lv_at hl 2 rfl) ?_
        obtain ⟨⟨u4_0, g904_1, u4_2⟩, hu_4, hsp⟩ := ox_bind hsp
        try dsimp only at hsp
        have hPc := hP.sub (ws' := [(h0, .inr (5, [.ref qf0, .int u3_2, .int v2, .int v3, .int v4, .int v5, .int v6, .int v7, .ref qf8, .ref qf9, .ref qf10, .ref qf11, .ref qf12, .ref qf13, .ref qf14, .ref qf15, .ref qf16, .int v17, .ref qf18, .int v19, .int v20])), (qf14, .inl (cf14, 60, .inl g903_1)), (qf16, .inl (cf16, 1800, .inl f16))]) [3, 4, 5] rfl
        have hDc := hD.sub (ws' := [(h0, .inr (5, [.ref qf0, .int u3_2, .int v2, .int v3, .int v4, .int v5, .int v6, .int v7, .ref qf8, .ref qf9, .ref qf10, .ref qf11, .ref qf12, .ref qf13, .ref qf14, .ref qf15, .ref qf16, .int v17, .ref qf18, .int v19, .int v20])), (qf14, .inl (cf14, 60, .inl g903_1)), (qf16, .inl (cf16, 1800, .inl f16))]) [3, 4, 5] (by decide) rfl
        have hKc := hK.sub (tys' := [(cf14, .int), (cf16, .int)]) [2, 3] rfl
        have hFc := va_free (wc := [(h0, .inr (5, [.ref qf0, .int u3_2, .int v2, .int v3, .int v4, .int v5, .int v6, .int v7, .ref qf8, .ref qf9, .ref qf10, .ref qf11, .ref qf12, .ref qf13, .ref qf14, .ref qf15, .ref qf16, .int v17, .ref qf18, .int v19, .int v20])), (qf14, .inl (cf14, 60, .inl g903_1)), (qf16, .inl (cf16, 1800, .inl f16))]) hD hS hA [3, 4, 5] rfl
        refine va_calli (va_runV (As := []) (rest := []) ⟨hx, hb, hml, hown, hts⟩ (t5_pop l dC dI H.size h0 qf0 u3_2 v2 v3 v4 v5 v6 v7 qf8 qf9 qf10 qf11 qf12 qf13 qf14 qf15 qf16 v17 qf18 v19 v20 cf14 g903_1 cf16 f16 nf u4_0 g904_1 u4_2 hu_4) (cwV 0 hts gv_h3_19 rfl rfl rfl (by decide +kernel) ⟨Nat.le_of_ble_eq_true rfl, Nat.le_of_ble_eq_true rfl⟩) ⟨fun a U g mk q => by obtain ⟨q0, q1, qP, qK, qD⟩ := q; exact ⟨q0, q1, qP, va_K.moved (u := U) (U := U.calling g mk a) (Vm.Alike.refl U.vm) qK, qD⟩, va_recv hKc hPc (ci := 5) (q0 := 0) rfl rfl, fun U hU hW => ⟨rfl, by rw [hU], by rw [hU]; exact hPc, va_K.moved hW.alike hKc, hDc.weaken (fun _ _ _ _ => trivial)⟩⟩ rfl rfl hl.1 rfl (lv_room (Nat.le_of_ble_eq_true rfl)) dX5_stepJump_62 ⟨Nat.le_of_ble_eq_true rfl, Nat.le_of_ble_eq_true rfl⟩) hS (fun q _ h => hFc q h) hFc ?_
        clear hS
        intro r_7 u t H1 locs ht hvm hw hB hz1 hk1 hS
        obtain ⟨⟩ := u
        obtain ⟨hP1, hK1, hD1⟩ := hB
        rw [ht] at hP1
        have hK1 := va_K.moved hvm.symm hK1
        try dsimp only at hw
        have hPD := va_join (wr := [(qf18, .inr (3, [.ref qf18_0, .int v18_1, .int v18_2, .int v18_3, .ref qf18_4, .ref qf18_5, .ref qf18_6, .int v18_7, .int v18_8, .int v18_9, .int v18_10, .ref qf18_11, .int v18_12, .ref qf18_13])), (qf18_0, .inl (cf18_0, nb, .inl f18_0)), (qf13, .inl (cf13, 60, .inl f13))]) (w1 := [(h0, .inr (5, [.ref qf0, .int u4_2, .int v2, .int v3, .int v4, .int v5, .int v6, .int v7, .ref qf8, .ref qf9, .ref qf10, .ref qf11, .ref qf12, .ref qf13, .ref qf14, .ref qf15, .ref qf16, .int v17, .ref qf18, .int v19, .int v20])), (qf14, .inl (cf14, 60, .inl g904_1)), (qf16, .inl (cf16, 1800, .inl f16))]) hP hD [3, 4, 5] [0, 1, 2] rfl rfl (by decide) (by decide) hk1 hFc hP1 hD1
        clear hP hD
        obtain ⟨hP, hD⟩ := hPD
        replace hK := (hK.sub (tys' := [(cf18_0, .byte), (cf13, .int)]) [0, 1] rfl).app hK1
        clear hPc hDc hKc hFc hP1 hK1 hD1 hz1 hk1 ht hvm
        generalize H1 = H at hP hS ⊢
        replace hP : va_P (dC, dI) vwCl [(qf18, .inr (3, [.ref qf18_0, .int v18_1, .int v18_2, .int v18_3, .ref qf18_4, .ref qf18_5, .ref qf18_6, .int v18_7, .int v18_8, .int v18_9, .int v18_10, .ref qf18_11, .int v18_12, .ref qf18_13])), (qf18_0, .inl (cf18_0, nb, .inl f18_0)), (qf13, .inl (cf13, 60, .inl f13)), (h0, .inr (5, [.ref qf0, .int u4_2, .int v2, .int v3, .int v4, .int v5, .int v6, .int v7, .ref qf8, .ref qf9, .ref qf10, .ref qf11, .ref qf12, .ref qf13, .ref qf14, .ref qf15, .ref qf16, .int v17, .ref qf18, .int v19, .int v20])), (qf14, .inl (cf14, 60, .inl g904_1)), (qf16, .inl (cf16, 1800, .inl f16))] H := hP
        replace hD : va_D A [(qf18, .inr (3, [.ref qf18_0, .int v18_1, .int v18_2, .int v18_3, .ref qf18_4, .ref qf18_5, .ref qf18_6, .int v18_7, .int v18_8, .int v18_9, .int v18_10, .ref qf18_11, .int v18_12, .ref qf18_13])), (qf18_0, .inl (cf18_0, nb, .inl f18_0)), (qf13, .inl (cf13, 60, .inl f13)), (h0, .inr (5, [.ref qf0, .int u4_2, .int v2, .int v3, .int v4, .int v5, .int v6, .int v7, .ref qf8, .ref qf9, .ref qf10, .ref qf11, .ref qf12, .ref qf13, .ref qf14, .ref qf15, .ref qf16, .int v17, .ref qf18, .int v19, .int v20])), (qf14, .inl (cf14, 60, .inl g904_1)), (qf16, .inl (cf16, 1800, .inl f16))] := hD
        replace hK : va_K (dC, dI) vwCl [(cf18_0, .byte), (cf13, .int), (cf14, .int), (cf16, .int)] s := hK
        obtain rfl := hw
        refine lv_istore (lv' := [(5, .int u4_0), (4, .int u3_0), (3, .int 1), (0, .ref h0), (1, .int a1), (2, .int a2)]) hx hb dX5_stepJump_65 hl (by decide) rfl (fun ls hl => ?_)
        refine lv_iload_n hx hb dX5_stepJump_67 rfl (lv_at hl 4 rfl) ?_
        refine lv_iload hx hb dX5_stepJump_68 (lv_at hl 0 rfl) ?_
        refine lv_iload hx hb dX5_stepJump_70 (lv_at hl 1 rfl) ?_
        obtain ⟨u5_0, hu_5, hsp⟩ := ox_bind hsp
        try dsimp only at hsp
        have hPc := hP.sub (ws' := []) [] rfl
        have hDc := hD.sub (ws' := []) [] (by decide) rfl
        have hKc := hK.sub (tys' := []) [] rfl
        have hFc := va_free (wc := []) hD hS hA [] rfl
        refine va_calli (va_runS (As := [.int a1, .int u4_0, .int u3_0]) (rest := []) ⟨hx, hb, hml, hown, hts⟩ (t5_compares l dC dI H.size a1 u4_0 u3_0 nf u5_0 hu_5) (va_cwS 3 hts gv_h3_26 rfl rfl rfl (by decide +kernel) ⟨Nat.le_of_ble_eq_true rfl, Nat.le_of_ble_eq_true rfl⟩) ⟨fun a U g mk q => by obtain ⟨q0, q1, qP, qK, qD⟩ := q; exact ⟨q0, q1, qP, va_K.moved (u := U) (U := U.calling g mk a) (Vm.Alike.refl U.vm) qK, qD⟩, fun U hU hW => ⟨rfl, by rw [hU], by rw [hU]; exact hPc, va_K.moved hW.alike hKc, hDc.weaken (fun _ _ _ _ => trivial)⟩⟩ rfl rfl hl.1 rfl (lv_room (Nat.le_of_ble_eq_true rfl)) dX5_stepJump_72 ⟨Nat.le_of_ble_eq_true rfl, Nat.le_of_ble_eq_true rfl⟩) hS (fun q _ h => hFc q h) hFc ?_
        clear hS
        intro r_8 u t H1 locs ht hvm hw hB hz1 hk1 hS
        obtain ⟨⟩ := u
        obtain ⟨hP1, hK1, hD1⟩ := hB
        rw [ht] at hP1
        have hK1 := va_K.moved hvm.symm hK1
        try dsimp only at hw
        have hPD := va_join (wr := [(qf18, .inr (3, [.ref qf18_0, .int v18_1, .int v18_2, .int v18_3, .ref qf18_4, .ref qf18_5, .ref qf18_6, .int v18_7, .int v18_8, .int v18_9, .int v18_10, .ref qf18_11, .int v18_12, .ref qf18_13])), (qf18_0, .inl (cf18_0, nb, .inl f18_0)), (qf13, .inl (cf13, 60, .inl f13)), (h0, .inr (5, [.ref qf0, .int u4_2, .int v2, .int v3, .int v4, .int v5, .int v6, .int v7, .ref qf8, .ref qf9, .ref qf10, .ref qf11, .ref qf12, .ref qf13, .ref qf14, .ref qf15, .ref qf16, .int v17, .ref qf18, .int v19, .int v20])), (qf14, .inl (cf14, 60, .inl g904_1)), (qf16, .inl (cf16, 1800, .inl f16))]) (w1 := []) hP hD [] [0, 1, 2, 3, 4, 5] rfl rfl (by decide) (by decide) hk1 hFc hP1 hD1
        clear hP hD
        obtain ⟨hP, hD⟩ := hPD
        replace hK := (hK.sub (tys' := [(cf18_0, .byte), (cf13, .int), (cf14, .int), (cf16, .int)]) [0, 1, 2, 3] rfl).app hK1
        clear hPc hDc hKc hFc hP1 hK1 hD1 hz1 hk1 ht hvm
        generalize H1 = H at hP hS ⊢
        replace hP : va_P (dC, dI) vwCl [(qf18, .inr (3, [.ref qf18_0, .int v18_1, .int v18_2, .int v18_3, .ref qf18_4, .ref qf18_5, .ref qf18_6, .int v18_7, .int v18_8, .int v18_9, .int v18_10, .ref qf18_11, .int v18_12, .ref qf18_13])), (qf18_0, .inl (cf18_0, nb, .inl f18_0)), (qf13, .inl (cf13, 60, .inl f13)), (h0, .inr (5, [.ref qf0, .int u4_2, .int v2, .int v3, .int v4, .int v5, .int v6, .int v7, .ref qf8, .ref qf9, .ref qf10, .ref qf11, .ref qf12, .ref qf13, .ref qf14, .ref qf15, .ref qf16, .int v17, .ref qf18, .int v19, .int v20])), (qf14, .inl (cf14, 60, .inl g904_1)), (qf16, .inl (cf16, 1800, .inl f16))] H := hP
        replace hD : va_D A [(qf18, .inr (3, [.ref qf18_0, .int v18_1, .int v18_2, .int v18_3, .ref qf18_4, .ref qf18_5, .ref qf18_6, .int v18_7, .int v18_8, .int v18_9, .int v18_10, .ref qf18_11, .int v18_12, .ref qf18_13])), (qf18_0, .inl (cf18_0, nb, .inl f18_0)), (qf13, .inl (cf13, 60, .inl f13)), (h0, .inr (5, [.ref qf0, .int u4_2, .int v2, .int v3, .int v4, .int v5, .int v6, .int v7, .ref qf8, .ref qf9, .ref qf10, .ref qf11, .ref qf12, .ref qf13, .ref qf14, .ref qf15, .ref qf16, .int v17, .ref qf18, .int v19, .int v20])), (qf14, .inl (cf14, 60, .inl g904_1)), (qf16, .inl (cf16, 1800, .inl f16))] := hD
        replace hK : va_K (dC, dI) vwCl [(cf18_0, .byte), (cf13, .int), (cf14, .int), (cf16, .int)] s := hK
        obtain ⟨rfl, hz_5⟩ := hw
        rcases hz_5 with rfl | rfl
        · rw [if_pos rfl] at hsp
          refine lv_istore_n (lv' := [(3, .int 0), (5, .int u4_0), (4, .int u3_0), (0, .ref h0), (1, .int a1), (2, .int a2)]) hx hb dX5_stepJump_75 rfl hl (by decide) rfl (fun ls hl => ?_)
          refine lv_aload_n hx hb dX5_stepJump_76 rfl (lv_at hl 3 rfl) ?_
          refine lv_iload_n hx hb dX5_stepJump_77 rfl (lv_at hl 0 rfl) ?_
          refine lv_if_eq (tgt := 100) hx hb dX5_stepJump_78 (by decide) (fun c_9 => ?_) (fun c_9 => (show False by revert c_9; decide).elim)
          refine lv_iconst (v := 3) hx hb dX5_stepJump_100 (by decide) ?_
          obtain ⟨g906_0, hu_6, hsp⟩ := ox_bind hsp
          try dsimp only at hsp
          have hPc := hP.sub (ws' := [(h0, .inr (5, [.ref qf0, .int u4_2, .int v2, .int v3, .int v4, .int v5, .int v6, .int v7, .ref qf8, .ref qf9, .ref qf10, .ref qf11, .ref qf12, .ref qf13, .ref qf14, .ref qf15, .ref qf16, .int v17, .ref qf18, .int v19, .int v20])), (qf13, .inl (cf13, 60, .inl f13))]) [3, 2] rfl
          have hDc := hD.sub (ws' := [(h0, .inr (5, [.ref qf0, .int u4_2, .int v2, .int v3, .int v4, .int v5, .int v6, .int v7, .ref qf8, .ref qf9, .ref qf10, .ref qf11, .ref qf12, .ref qf13, .ref qf14, .ref qf15, .ref qf16, .int v17, .ref qf18, .int v19, .int v20])), (qf13, .inl (cf13, 60, .inl f13))]) [3, 2] (by decide) rfl
          have hKc := hK.sub (tys' := [(cf13, .int)]) [1] rfl
          have hFc := va_free (wc := [(h0, .inr (5, [.ref qf0, .int u4_2, .int v2, .int v3, .int v4, .int v5, .int v6, .int v7, .ref qf8, .ref qf9, .ref qf10, .ref qf11, .ref qf12, .ref qf13, .ref qf14, .ref qf15, .ref qf16, .int v17, .ref qf18, .int v19, .int v20])), (qf13, .inl (cf13, 60, .inl f13))]) hD hS hA [3, 2] rfl
          refine va_callv (va_runV (As := [.int 3]) (rest := []) ⟨hx, hb, hml, hown, hts⟩ (t5_goOn l dC dI H.size h0 3 qf0 u4_2 v2 v3 v4 v5 v6 v7 qf8 qf9 qf10 qf11 qf12 qf13 qf14 qf15 qf16 v17 qf18 v19 v20 cf13 f13 nf g906_0 hu_6) (cwV 1 hts gv_h3_16 rfl rfl rfl (by decide +kernel) ⟨Nat.le_of_ble_eq_true rfl, Nat.le_of_ble_eq_true rfl⟩) ⟨fun a U g mk q => by obtain ⟨q0, q1, qP, qK, qD⟩ := q; exact ⟨q0, q1, qP, va_K.moved (u := U) (U := U.calling g mk a) (Vm.Alike.refl U.vm) qK, qD⟩, va_recv hKc hPc (ci := 5) (q0 := 0) rfl rfl, fun U hU hW => ⟨rfl, by rw [hU], by rw [hU]; exact hPc, va_K.moved hW.alike hKc, hDc.weaken (fun _ _ _ _ => trivial)⟩⟩ rfl rfl hl.1 rfl (lv_room (Nat.le_of_ble_eq_true rfl)) dX5_stepJump_101 ⟨Nat.le_of_ble_eq_true rfl, Nat.le_of_ble_eq_true rfl⟩) hS (fun q _ h => hFc q h) hFc ?_
          clear hS
          intro u t H1 locs ht hvm hw hB hz1 hk1 hS
          obtain ⟨⟩ := u
          obtain ⟨hP1, hK1, hD1⟩ := hB
          rw [ht] at hP1
          have hK1 := va_K.moved hvm.symm hK1
          try dsimp only at hw
          have hPD := va_join (wr := [(qf18, .inr (3, [.ref qf18_0, .int v18_1, .int v18_2, .int v18_3, .ref qf18_4, .ref qf18_5, .ref qf18_6, .int v18_7, .int v18_8, .int v18_9, .int v18_10, .ref qf18_11, .int v18_12, .ref qf18_13])), (qf18_0, .inl (cf18_0, nb, .inl f18_0)), (qf14, .inl (cf14, 60, .inl g904_1)), (qf16, .inl (cf16, 1800, .inl f16))]) (w1 := [(h0, .inr (5, [.ref qf0, .int u4_2, .int v2, .int v3, .int v4, .int v5, .int v6, .int v7, .ref qf8, .ref qf9, .ref qf10, .ref qf11, .ref qf12, .ref qf13, .ref qf14, .ref qf15, .ref qf16, .int v17, .ref qf18, .int v19, .int v20])), (qf13, .inl (cf13, 60, .inl g906_0))]) hP hD [3, 2] [0, 1, 4, 5] rfl rfl (by decide) (by decide) hk1 hFc hP1 hD1
          clear hP hD
          obtain ⟨hP, hD⟩ := hPD
          replace hK := (hK.sub (tys' := [(cf18_0, .byte), (cf14, .int), (cf16, .int)]) [0, 2, 3] rfl).app hK1
          clear hPc hDc hKc hFc hP1 hK1 hD1 hz1 hk1 ht hvm
          generalize H1 = H at hP hS ⊢
          replace hP : va_P (dC, dI) vwCl [(qf18, .inr (3, [.ref qf18_0, .int v18_1, .int v18_2, .int v18_3, .ref qf18_4, .ref qf18_5, .ref qf18_6, .int v18_7, .int v18_8, .int v18_9, .int v18_10, .ref qf18_11, .int v18_12, .ref qf18_13])), (qf18_0, .inl (cf18_0, nb, .inl f18_0)), (qf14, .inl (cf14, 60, .inl g904_1)), (qf16, .inl (cf16, 1800, .inl f16)), (h0, .inr (5, [.ref qf0, .int u4_2, .int v2, .int v3, .int v4, .int v5, .int v6, .int v7, .ref qf8, .ref qf9, .ref qf10, .ref qf11, .ref qf12, .ref qf13, .ref qf14, .ref qf15, .ref qf16, .int v17, .ref qf18, .int v19, .int v20])), (qf13, .inl (cf13, 60, .inl g906_0))] H := hP
          replace hD : va_D A [(qf18, .inr (3, [.ref qf18_0, .int v18_1, .int v18_2, .int v18_3, .ref qf18_4, .ref qf18_5, .ref qf18_6, .int v18_7, .int v18_8, .int v18_9, .int v18_10, .ref qf18_11, .int v18_12, .ref qf18_13])), (qf18_0, .inl (cf18_0, nb, .inl f18_0)), (qf14, .inl (cf14, 60, .inl g904_1)), (qf16, .inl (cf16, 1800, .inl f16)), (h0, .inr (5, [.ref qf0, .int u4_2, .int v2, .int v3, .int v4, .int v5, .int v6, .int v7, .ref qf8, .ref qf9, .ref qf10, .ref qf11, .ref qf12, .ref qf13, .ref qf14, .ref qf15, .ref qf16, .int v17, .ref qf18, .int v19, .int v20])), (qf13, .inl (cf13, 60, .inl g906_0))] := hD
          replace hK : va_K (dC, dI) vwCl [(cf18_0, .byte), (cf14, .int), (cf16, .int), (cf13, .int)] s := hK
          have hr0 := Option.some.inj hsp
          clear hsp
          obtain ⟨hq0, hr1⟩ := Prod.mk.inj hr0
          clear hr0
          obtain ⟨hq1, hr2⟩ := Prod.mk.inj hr1
          clear hr1
          subst hq0
          subst hq1
          subst hr2
          have hP9 := hP.sub (ws' := [(h0, .inr (5, [.ref qf0, .int u4_2, .int v2, .int v3, .int v4, .int v5, .int v6, .int v7, .ref qf8, .ref qf9, .ref qf10, .ref qf11, .ref qf12, .ref qf13, .ref qf14, .ref qf15, .ref qf16, .int v17, .ref qf18, .int v19, .int v20])), (qf18, .inr (3, [.ref qf18_0, .int v18_1, .int v18_2, .int v18_3, .ref qf18_4, .ref qf18_5, .ref qf18_6, .int v18_7, .int v18_8, .int v18_9, .int v18_10, .ref qf18_11, .int v18_12, .ref qf18_13])), (qf18_0, .inl (cf18_0, nb, .inl f18_0)), (qf13, .inl (cf13, 60, .inl g906_0)), (qf14, .inl (cf14, 60, .inl g904_1)), (qf16, .inl (cf16, 1800, .inl f16))]) [4, 0, 1, 5, 2, 3] rfl
          have hD9 := hD.sub (ws' := [(h0, .inr (5, [.ref qf0, .int u4_2, .int v2, .int v3, .int v4, .int v5, .int v6, .int v7, .ref qf8, .ref qf9, .ref qf10, .ref qf11, .ref qf12, .ref qf13, .ref qf14, .ref qf15, .ref qf16, .int v17, .ref qf18, .int v19, .int v20])), (qf18, .inr (3, [.ref qf18_0, .int v18_1, .int v18_2, .int v18_3, .ref qf18_4, .ref qf18_5, .ref qf18_6, .int v18_7, .int v18_8, .int v18_9, .int v18_10, .ref qf18_11, .int v18_12, .ref qf18_13])), (qf18_0, .inl (cf18_0, nb, .inl f18_0)), (qf13, .inl (cf13, 60, .inl g906_0)), (qf14, .inl (cf14, 60, .inl g904_1)), (qf16, .inl (cf16, 1800, .inl f16))]) [4, 0, 1, 5, 2, 3] (by decide) rfl
          have hK9 := hK.sub (tys' := [(cf18_0, .byte), (cf13, .int), (cf14, .int), (cf16, .int)]) [0, 3, 1, 2] rfl
          exact W.vret hx hb hr (fun t ht hW => ⟨⟨(), rfl, trivial, by rw [ht]; exact hP9, va_K.moved hW.alike hK9, hD9⟩, hS.F ht⟩) hS.2.2 dX5_stepJump_104
        · rw [if_neg (by decide)] at hsp
          refine lv_istore_n (lv' := [(3, .int 1), (5, .int u4_0), (4, .int u3_0), (0, .ref h0), (1, .int a1), (2, .int a2)]) hx hb dX5_stepJump_75 rfl hl (by decide) rfl (fun ls hl => ?_)
          refine lv_aload_n hx hb dX5_stepJump_76 rfl (lv_at hl 3 rfl) ?_
          refine lv_iload_n hx hb dX5_stepJump_77 rfl (lv_at hl 0 rfl) ?_
          refine lv_if_eq (tgt := 100) hx hb dX5_stepJump_78 (by decide) (fun c_10 => (show False by revert c_10; decide).elim) (fun c_10 => ?_)
          refine lv_aload_n hx hb dX5_stepJump_81 rfl (lv_at hl 3 rfl) ?_
          refine va_get (D := (dC, dI)) (ci := 5) (v := .ref qf18) (C := RX5) (T := TX5) (N := 21) hx hb hts uV_h3_X5 hown hK hP 3 rfl rfl 18 (by decide) (hts (.fieldLink RX5 46 "ClassMill$Machine" "image" "LClassMill$Image;") mw_h3_138) (fun _ h9 => h9) rfl dX5_stepJump_82 ?_
          refine lv_aload_n hx hb dX5_stepJump_85 rfl (lv_at hl 3 rfl) ?_
          refine va_get (D := (dC, dI)) (ci := 5) (v := .int v19) (C := RX5) (T := TX5) (N := 21) hx hb hts uV_h3_X5 hown hK hP 3 rfl rfl 19 (by decide) (hts (.fieldLink RX5 129 "ClassMill$Machine" "code" "I") mw_h3_139) (fun _ h9 => h9) rfl dX5_stepJump_86 ?_
          refine lv_iload_n hx hb dX5_stepJump_89 rfl (lv_at hl 5 rfl) ?_
          refine lv_iadd hx hb dX5_stepJump_90 ?_
          refine lv_iconst (v := 1) hx hb dX5_stepJump_91 (by decide) ?_
          refine lv_iadd hx hb dX5_stepJump_92 ?_
          obtain ⟨u7_0, hu_7, hsp⟩ := ox_bind hsp
          try dsimp only at hsp
          have hPc := hP.sub (ws' := [(qf18, .inr (3, [.ref qf18_0, .int v18_1, .int v18_2, .int v18_3, .ref qf18_4, .ref qf18_5, .ref qf18_6, .int v18_7, .int v18_8, .int v18_9, .int v18_10, .ref qf18_11, .int v18_12, .ref qf18_13])), (qf18_0, .inl (cf18_0, nb, .inl f18_0))]) [0, 1] rfl
          have hDc := hD.sub (ws' := [(qf18, .inr (3, [.ref qf18_0, .int v18_1, .int v18_2, .int v18_3, .ref qf18_4, .ref qf18_5, .ref qf18_6, .int v18_7, .int v18_8, .int v18_9, .int v18_10, .ref qf18_11, .int v18_12, .ref qf18_13])), (qf18_0, .inl (cf18_0, nb, .inl f18_0))]) [0, 1] (by decide) rfl
          have hKc := hK.sub (tys' := [(cf18_0, .byte)]) [0] rfl
          have hFc := va_free (wc := [(qf18, .inr (3, [.ref qf18_0, .int v18_1, .int v18_2, .int v18_3, .ref qf18_4, .ref qf18_5, .ref qf18_6, .int v18_7, .int v18_8, .int v18_9, .int v18_10, .ref qf18_11, .int v18_12, .ref qf18_13])), (qf18_0, .inl (cf18_0, nb, .inl f18_0))]) hD hS hA [0, 1] rfl
          refine va_calli (va_runV (As := [.int ((v19 + a2) + 1)]) (rest := [.ref h0]) ⟨hx, hb, hml, hown, hts⟩ (ti_pairAt l dC dI H.size qf18 (((v19 + a2) + 1)) qf18_0 v18_1 v18_2 v18_3 qf18_4 qf18_5 qf18_6 v18_7 v18_8 v18_9 v18_10 qf18_11 v18_12 qf18_13 cf18_0 nb f18_0 nf u7_0 hu_7) (cwV 1 hts gv_h3_20 rfl rfl rfl (by decide +kernel) ⟨Nat.le_of_ble_eq_true rfl, Nat.le_of_ble_eq_true rfl⟩) ⟨fun a U g mk q => by obtain ⟨q0, q1, qP, qK, qD⟩ := q; exact ⟨q0, q1, qP, va_K.moved (u := U) (U := U.calling g mk a) (Vm.Alike.refl U.vm) qK, qD⟩, va_recv hKc hPc (ci := 3) (q0 := 0) rfl rfl, fun U hU hW => ⟨rfl, by rw [hU], by rw [hU]; exact hPc, va_K.moved hW.alike hKc, hDc.weaken (fun _ _ _ _ => trivial)⟩⟩ rfl rfl hl.1 rfl (lv_room (Nat.le_of_ble_eq_true rfl)) dX5_stepJump_93 ⟨Nat.le_of_ble_eq_true rfl, Nat.le_of_ble_eq_true rfl⟩) hS (fun q _ h => hFc q h) hFc ?_
          clear hS
          intro r_11 u t H1 locs ht hvm hw hB hz1 hk1 hS
          obtain ⟨⟩ := u
          obtain ⟨hP1, hK1, hD1⟩ := hB
          rw [ht] at hP1
          have hK1 := va_K.moved hvm.symm hK1
          try dsimp only at hw
          have hPD := va_join (wr := [(qf13, .inl (cf13, 60, .inl f13)), (h0, .inr (5, [.ref qf0, .int u4_2, .int v2, .int v3, .int v4, .int v5, .int v6, .int v7, .ref qf8, .ref qf9, .ref qf10, .ref qf11, .ref qf12, .ref qf13, .ref qf14, .ref qf15, .ref qf16, .int v17, .ref qf18, .int v19, .int v20])), (qf14, .inl (cf14, 60, .inl g904_1)), (qf16, .inl (cf16, 1800, .inl f16))]) (w1 := [(qf18, .inr (3, [.ref qf18_0, .int v18_1, .int v18_2, .int v18_3, .ref qf18_4, .ref qf18_5, .ref qf18_6, .int v18_7, .int v18_8, .int v18_9, .int v18_10, .ref qf18_11, .int v18_12, .ref qf18_13])), (qf18_0, .inl (cf18_0, nb, .inl f18_0))]) hP hD [0, 1] [2, 3, 4, 5] rfl rfl (by decide) (by decide) hk1 hFc hP1 hD1
          clear hP hD
          obtain ⟨hP, hD⟩ := hPD
          replace hK := (hK.sub (tys' := [(cf13, .int), (cf14, .int), (cf16, .int)]) [1, 2, 3] rfl).app hK1
          clear hPc hDc hKc hFc hP1 hK1 hD1 hz1 hk1 ht hvm
          generalize H1 = H at hP hS ⊢
          replace hP : va_P (dC, dI) vwCl [(qf13, .inl (cf13, 60, .inl f13)), (h0, .inr (5, [.ref qf0, .int u4_2, .int v2, .int v3, .int v4, .int v5, .int v6, .int v7, .ref qf8, .ref qf9, .ref qf10, .ref qf11, .ref qf12, .ref qf13, .ref qf14, .ref qf15, .ref qf16, .int v17, .ref qf18, .int v19, .int v20])), (qf14, .inl (cf14, 60, .inl g904_1)), (qf16, .inl (cf16, 1800, .inl f16)), (qf18, .inr (3, [.ref qf18_0, .int v18_1, .int v18_2, .int v18_3, .ref qf18_4, .ref qf18_5, .ref qf18_6, .int v18_7, .int v18_8, .int v18_9, .int v18_10, .ref qf18_11, .int v18_12, .ref qf18_13])), (qf18_0, .inl (cf18_0, nb, .inl f18_0))] H := hP
          replace hD : va_D A [(qf13, .inl (cf13, 60, .inl f13)), (h0, .inr (5, [.ref qf0, .int u4_2, .int v2, .int v3, .int v4, .int v5, .int v6, .int v7, .ref qf8, .ref qf9, .ref qf10, .ref qf11, .ref qf12, .ref qf13, .ref qf14, .ref qf15, .ref qf16, .int v17, .ref qf18, .int v19, .int v20])), (qf14, .inl (cf14, 60, .inl g904_1)), (qf16, .inl (cf16, 1800, .inl f16)), (qf18, .inr (3, [.ref qf18_0, .int v18_1, .int v18_2, .int v18_3, .ref qf18_4, .ref qf18_5, .ref qf18_6, .int v18_7, .int v18_8, .int v18_9, .int v18_10, .ref qf18_11, .int v18_12, .ref qf18_13])), (qf18_0, .inl (cf18_0, nb, .inl f18_0))] := hD
          replace hK : va_K (dC, dI) vwCl [(cf13, .int), (cf14, .int), (cf16, .int), (cf18_0, .byte)] s := hK
          obtain rfl := hw
          refine lv_i2s hx hb dX5_stepJump_96 rfl ?_
          refine lv_goto (tgt := 101) hx hb dX5_stepJump_97 (by decide) ?_
          obtain ⟨g908_0, hu_8, hsp⟩ := ox_bind hsp
          try dsimp only at hsp
          have hPc := hP.sub (ws' := [(h0, .inr (5, [.ref qf0, .int u4_2, .int v2, .int v3, .int v4, .int v5, .int v6, .int v7, .ref qf8, .ref qf9, .ref qf10, .ref qf11, .ref qf12, .ref qf13, .ref qf14, .ref qf15, .ref qf16, .int v17, .ref qf18, .int v19, .int v20])), (qf13, .inl (cf13, 60, .inl f13))]) [1, 0] rfl
          have hDc := hD.sub (ws' := [(h0, .inr (5, [.ref qf0, .int u4_2, .int v2, .int v3, .int v4, .int v5, .int v6, .int v7, .ref qf8, .ref qf9, .ref qf10, .ref qf11, .ref qf12, .ref qf13, .ref qf14, .ref qf15, .ref qf16, .int v17, .ref qf18, .int v19, .int v20])), (qf13, .inl (cf13, 60, .inl f13))]) [1, 0] (by decide) rfl
          have hKc := hK.sub (tys' := [(cf13, .int)]) [0] rfl
          have hFc := va_free (wc := [(h0, .inr (5, [.ref qf0, .int u4_2, .int v2, .int v3, .int v4, .int v5, .int v6, .int v7, .ref qf8, .ref qf9, .ref qf10, .ref qf11, .ref qf12, .ref qf13, .ref qf14, .ref qf15, .ref qf16, .int v17, .ref qf18, .int v19, .int v20])), (qf13, .inl (cf13, 60, .inl f13))]) hD hS hA [1, 0] rfl
          refine va_callv (va_runV (As := [.int ((u7_0 : Int32).toInt16.toInt32)]) (rest := []) ⟨hx, hb, hml, hown, hts⟩ (t5_goOn l dC dI H.size h0 (((u7_0 : Int32).toInt16.toInt32)) qf0 u4_2 v2 v3 v4 v5 v6 v7 qf8 qf9 qf10 qf11 qf12 qf13 qf14 qf15 qf16 v17 qf18 v19 v20 cf13 f13 nf g908_0 hu_8) (cwV 1 hts gv_h3_16 rfl rfl rfl (by decide +kernel) ⟨Nat.le_of_ble_eq_true rfl, Nat.le_of_ble_eq_true rfl⟩) ⟨fun a U g mk q => by obtain ⟨q0, q1, qP, qK, qD⟩ := q; exact ⟨q0, q1, qP, va_K.moved (u := U) (U := U.calling g mk a) (Vm.Alike.refl U.vm) qK, qD⟩, va_recv hKc hPc (ci := 5) (q0 := 0) rfl rfl, fun U hU hW => ⟨rfl, by rw [hU], by rw [hU]; exact hPc, va_K.moved hW.alike hKc, hDc.weaken (fun _ _ _ _ => trivial)⟩⟩ rfl rfl hl.1 rfl (lv_room (Nat.le_of_ble_eq_true rfl)) dX5_stepJump_101 ⟨Nat.le_of_ble_eq_true rfl, Nat.le_of_ble_eq_true rfl⟩) hS (fun q _ h => hFc q h) hFc ?_
          clear hS
          intro u t H1 locs ht hvm hw hB hz1 hk1 hS
          obtain ⟨⟩ := u
          obtain ⟨hP1, hK1, hD1⟩ := hB
          rw [ht] at hP1
          have hK1 := va_K.moved hvm.symm hK1
          try dsimp only at hw
          have hPD := va_join (wr := [(qf14, .inl (cf14, 60, .inl g904_1)), (qf16, .inl (cf16, 1800, .inl f16)), (qf18, .inr (3, [.ref qf18_0, .int v18_1, .int v18_2, .int v18_3, .ref qf18_4, .ref qf18_5, .ref qf18_6, .int v18_7, .int v18_8, .int v18_9, .int v18_10, .ref qf18_11, .int v18_12, .ref qf18_13])), (qf18_0, .inl (cf18_0, nb, .inl f18_0))]) (w1 := [(h0, .inr (5, [.ref qf0, .int u4_2, .int v2, .int v3, .int v4, .int v5, .int v6, .int v7, .ref qf8, .ref qf9, .ref qf10, .ref qf11, .ref qf12, .ref qf13, .ref qf14, .ref qf15, .ref qf16, .int v17, .ref qf18, .int v19, .int v20])), (qf13, .inl (cf13, 60, .inl g908_0))]) hP hD [1, 0] [2, 3, 4, 5] rfl rfl (by decide) (by decide) hk1 hFc hP1 hD1
          clear hP hD
          obtain ⟨hP, hD⟩ := hPD
          replace hK := (hK.sub (tys' := [(cf14, .int), (cf16, .int), (cf18_0, .byte)]) [1, 2, 3] rfl).app hK1
          clear hPc hDc hKc hFc hP1 hK1 hD1 hz1 hk1 ht hvm
          generalize H1 = H at hP hS ⊢
          replace hP : va_P (dC, dI) vwCl [(qf14, .inl (cf14, 60, .inl g904_1)), (qf16, .inl (cf16, 1800, .inl f16)), (qf18, .inr (3, [.ref qf18_0, .int v18_1, .int v18_2, .int v18_3, .ref qf18_4, .ref qf18_5, .ref qf18_6, .int v18_7, .int v18_8, .int v18_9, .int v18_10, .ref qf18_11, .int v18_12, .ref qf18_13])), (qf18_0, .inl (cf18_0, nb, .inl f18_0)), (h0, .inr (5, [.ref qf0, .int u4_2, .int v2, .int v3, .int v4, .int v5, .int v6, .int v7, .ref qf8, .ref qf9, .ref qf10, .ref qf11, .ref qf12, .ref qf13, .ref qf14, .ref qf15, .ref qf16, .int v17, .ref qf18, .int v19, .int v20])), (qf13, .inl (cf13, 60, .inl g908_0))] H := hP
          replace hD : va_D A [(qf14, .inl (cf14, 60, .inl g904_1)), (qf16, .inl (cf16, 1800, .inl f16)), (qf18, .inr (3, [.ref qf18_0, .int v18_1, .int v18_2, .int v18_3, .ref qf18_4, .ref qf18_5, .ref qf18_6, .int v18_7, .int v18_8, .int v18_9, .int v18_10, .ref qf18_11, .int v18_12, .ref qf18_13])), (qf18_0, .inl (cf18_0, nb, .inl f18_0)), (h0, .inr (5, [.ref qf0, .int u4_2, .int v2, .int v3, .int v4, .int v5, .int v6, .int v7, .ref qf8, .ref qf9, .ref qf10, .ref qf11, .ref qf12, .ref qf13, .ref qf14, .ref qf15, .ref qf16, .int v17, .ref qf18, .int v19, .int v20])), (qf13, .inl (cf13, 60, .inl g908_0))] := hD
          replace hK : va_K (dC, dI) vwCl [(cf14, .int), (cf16, .int), (cf18_0, .byte), (cf13, .int)] s := hK
          have hr0 := Option.some.inj hsp
          clear hsp
          obtain ⟨hq0, hr1⟩ := Prod.mk.inj hr0
          clear hr0
          obtain ⟨hq1, hr2⟩ := Prod.mk.inj hr1
          clear hr1
          subst hq0
          subst hq1
          subst hr2
          have hP9 := hP.sub (ws' := [(h0, .inr (5, [.ref qf0, .int u4_2, .int v2, .int v3, .int v4, .int v5, .int v6, .int v7, .ref qf8, .ref qf9, .ref qf10, .ref qf11, .ref qf12, .ref qf13, .ref qf14, .ref qf15, .ref qf16, .int v17, .ref qf18, .int v19, .int v20])), (qf18, .inr (3, [.ref qf18_0, .int v18_1, .int v18_2, .int v18_3, .ref qf18_4, .ref qf18_5, .ref qf18_6, .int v18_7, .int v18_8, .int v18_9, .int v18_10, .ref qf18_11, .int v18_12, .ref qf18_13])), (qf18_0, .inl (cf18_0, nb, .inl f18_0)), (qf13, .inl (cf13, 60, .inl g908_0)), (qf14, .inl (cf14, 60, .inl g904_1)), (qf16, .inl (cf16, 1800, .inl f16))]) [4, 2, 3, 5, 0, 1] rfl
          have hD9 := hD.sub (ws' := [(h0, .inr (5, [.ref qf0, .int u4_2, .int v2, .int v3, .int v4, .int v5, .int v6, .int v7, .ref qf8, .ref qf9, .ref qf10, .ref qf11, .ref qf12, .ref qf13, .ref qf14, .ref qf15, .ref qf16, .int v17, .ref qf18, .int v19, .int v20])), (qf18, .inr (3, [.ref qf18_0, .int v18_1, .int v18_2, .int v18_3, .ref qf18_4, .ref qf18_5, .ref qf18_6, .int v18_7, .int v18_8, .int v18_9, .int v18_10, .ref qf18_11, .int v18_12, .ref qf18_13])), (qf18_0, .inl (cf18_0, nb, .inl f18_0)), (qf13, .inl (cf13, 60, .inl g908_0)), (qf14, .inl (cf14, 60, .inl g904_1)), (qf16, .inl (cf16, 1800, .inl f16))]) [4, 2, 3, 5, 0, 1] (by decide) rfl
          have hK9 := hK.sub (tys' := [(cf18_0, .byte), (cf13, .int), (cf14, .int), (cf16, .int)]) [2, 3, 0, 1] rfl
          exact W.vret hx hb hr (fun t ht hW => ⟨⟨(), rfl, trivial, by rw [ht]; exact hP9, va_K.moved hW.alike hK9, hD9⟩, hS.F ht⟩) hS.2.2 dX5_stepJump_104
    · rw [if_pos c_2] at hsp
      refine lv_aload_n hx hb dX5_stepJump_32 rfl (lv_at hl 1 rfl) ?_
      obtain ⟨⟨u9_0, g909_1, u9_2⟩, hu_9, hsp⟩ := ox_bind hsp
      try dsimp only at hsp
      have hPc := hP.sub (ws' := [(h0, .inr (5, [.ref qf0, .int v1, .int v2, .int v3, .int v4, .int v5, .int v6, .int v7, .ref qf8, .ref qf9, .ref qf10, .ref qf11, .ref qf12, .ref qf13, .ref qf14, .ref qf15, .ref qf16, .int v17, .ref qf18, .int v19, .int v20])), (qf14, .inl (cf14, 60, .inl f14)), (qf16, .inl (cf16, 1800, .inl f16))]) [0, 4, 5] rfl
      have hDc := hD.sub (ws' := [(h0, .inr (5, [.ref qf0, .int v1, .int v2, .int v3, .int v4, .int v5, .int v6, .int v7, .ref qf8, .ref qf9, .ref qf10, .ref qf11, .ref qf12, .ref qf13, .ref qf14, .ref qf15, .ref qf16, .int v17, .ref qf18, .int v19, .int v20])), (qf14, .inl (cf14, 60, .inl f14)), (qf16, .inl (cf16, 1800, .inl f16))]) [0, 4, 5] (by decide) rfl
      have hKc := hK.sub (tys' := [(cf14, .int), (cf16, .int)]) [2, 3] rfl
      have hFc := va_free (wc := [(h0, .inr (5, [.ref qf0, .int v1, .int v2, .int v3, .int v4, .int v5, .int v6, .int v7, .ref qf8, .ref qf9, .ref qf10, .ref qf11, .ref qf12, .ref qf13, .ref qf14, .ref qf15, .ref qf16, .int v17, .ref qf18, .int v19, .int v20])), (qf14, .inl (cf14, 60, .inl f14)), (qf16, .inl (cf16, 1800, .inl f16))]) hD hS hA [0, 4, 5] rfl
      refine va_calli (va_runV (As := []) (rest := []) ⟨hx, hb, hml, hown, hts⟩ (t5_pop l dC dI H.size h0 qf0 v1 v2 v3 v4 v5 v6 v7 qf8 qf9 qf10 qf11 qf12 qf13 qf14 qf15 qf16 v17 qf18 v19 v20 cf14 f14 cf16 f16 nf u9_0 g909_1 u9_2 hu_9) (cwV 0 hts gv_h3_19 rfl rfl rfl (by decide +kernel) ⟨Nat.le_of_ble_eq_true rfl, Nat.le_of_ble_eq_true rfl⟩) ⟨fun a U g mk q => by obtain ⟨q0, q1, qP, qK, qD⟩ := q; exact ⟨q0, q1, qP, va_K.moved (u := U) (U := U.calling g mk a) (Vm.Alike.refl U.vm) qK, qD⟩, va_recv hKc hPc (ci := 5) (q0 := 0) rfl rfl, fun U hU hW => ⟨rfl, by rw [hU], by rw [hU]; exact hPc, va_K.moved hW.alike hKc, hDc.weaken (fun _ _ _ _ => trivial)⟩⟩ rfl rfl hl.1 rfl (lv_room (Nat.le_of_ble_eq_true rfl)) dX5_stepJump_33 ⟨Nat.le_of_ble_eq_true rfl, Nat.le_of_ble_eq_true rfl⟩) hS (fun q _ h => hFc q h) hFc ?_
      clear hS
      intro r_12 u t H1 locs ht hvm hw hB hz1 hk1 hS
      obtain ⟨⟩ := u
      obtain ⟨hP1, hK1, hD1⟩ := hB
      rw [ht] at hP1
      have hK1 := va_K.moved hvm.symm hK1
      try dsimp only at hw
      have hPD := va_join (wr := [(qf18, .inr (3, [.ref qf18_0, .int v18_1, .int v18_2, .int v18_3, .ref qf18_4, .ref qf18_5, .ref qf18_6, .int v18_7, .int v18_8, .int v18_9, .int v18_10, .ref qf18_11, .int v18_12, .ref qf18_13])), (qf18_0, .inl (cf18_0, nb, .inl f18_0)), (qf13, .inl (cf13, 60, .inl f13))]) (w1 := [(h0, .inr (5, [.ref qf0, .int u9_2, .int v2, .int v3, .int v4, .int v5, .int v6, .int v7, .ref qf8, .ref qf9, .ref qf10, .ref qf11, .ref qf12, .ref qf13, .ref qf14, .ref qf15, .ref qf16, .int v17, .ref qf18, .int v19, .int v20])), (qf14, .inl (cf14, 60, .inl g909_1)), (qf16, .inl (cf16, 1800, .inl f16))]) hP hD [0, 4, 5] [1, 2, 3] rfl rfl (by decide) (by decide) hk1 hFc hP1 hD1
      clear hP hD
      obtain ⟨hP, hD⟩ := hPD
      replace hK := (hK.sub (tys' := [(cf18_0, .byte), (cf13, .int)]) [0, 1] rfl).app hK1
      clear hPc hDc hKc hFc hP1 hK1 hD1 hz1 hk1 ht hvm
      generalize H1 = H at hP hS ⊢
      replace hP : va_P (dC, dI) vwCl [(qf18, .inr (3, [.ref qf18_0, .int v18_1, .int v18_2, .int v18_3, .ref qf18_4, .ref qf18_5, .ref qf18_6, .int v18_7, .int v18_8, .int v18_9, .int v18_10, .ref qf18_11, .int v18_12, .ref qf18_13])), (qf18_0, .inl (cf18_0, nb, .inl f18_0)), (qf13, .inl (cf13, 60, .inl f13)), (h0, .inr (5, [.ref qf0, .int u9_2, .int v2, .int v3, .int v4, .int v5, .int v6, .int v7, .ref qf8, .ref qf9, .ref qf10, .ref qf11, .ref qf12, .ref qf13, .ref qf14, .ref qf15, .ref qf16, .int v17, .ref qf18, .int v19, .int v20])), (qf14, .inl (cf14, 60, .inl g909_1)), (qf16, .inl (cf16, 1800, .inl f16))] H := hP
      replace hD : va_D A [(qf18, .inr (3, [.ref qf18_0, .int v18_1, .int v18_2, .int v18_3, .ref qf18_4, .ref qf18_5, .ref qf18_6, .int v18_7, .int v18_8, .int v18_9, .int v18_10, .ref qf18_11, .int v18_12, .ref qf18_13])), (qf18_0, .inl (cf18_0, nb, .inl f18_0)), (qf13, .inl (cf13, 60, .inl f13)), (h0, .inr (5, [.ref qf0, .int u9_2, .int v2, .int v3, .int v4, .int v5, .int v6, .int v7, .ref qf8, .ref qf9, .ref qf10, .ref qf11, .ref qf12, .ref qf13, .ref qf14, .ref qf15, .ref qf16, .int v17, .ref qf18, .int v19, .int v20])), (qf14, .inl (cf14, 60, .inl g909_1)), (qf16, .inl (cf16, 1800, .inl f16))] := hD
      replace hK : va_K (dC, dI) vwCl [(cf18_0, .byte), (cf13, .int), (cf14, .int), (cf16, .int)] s := hK
      obtain rfl := hw
      refine lv_if_eq (tgt := 43) hx hb dX5_stepJump_36 (by decide) (fun c_13 => ?_) (fun c_13 => ?_)
      · rw [if_pos c_13] at hsp
        refine lv_iconst (v := 0) hx hb dX5_stepJump_43 (by decide) ?_
        refine lv_istore_n (lv' := [(3, .int 0), (0, .ref h0), (1, .int a1), (2, .int a2)]) hx hb dX5_stepJump_44 rfl hl (by decide) rfl (fun ls hl => ?_)
        refine lv_goto (tgt := 76) hx hb dX5_stepJump_45 (by decide) ?_
        refine lv_aload_n hx hb dX5_stepJump_76 rfl (lv_at hl 1 rfl) ?_
        refine lv_iload_n hx hb dX5_stepJump_77 rfl (lv_at hl 0 rfl) ?_
        refine lv_if_eq (tgt := 100) hx hb dX5_stepJump_78 (by decide) (fun c_14 => ?_) (fun c_14 => (show False by revert c_14; decide).elim)
        refine lv_iconst (v := 3) hx hb dX5_stepJump_100 (by decide) ?_
        obtain ⟨g910_0, hu_10, hsp⟩ := ox_bind hsp
        try dsimp only at hsp
        have hPc := hP.sub (ws' := [(h0, .inr (5, [.ref qf0, .int u9_2, .int v2, .int v3, .int v4, .int v5, .int v6, .int v7, .ref qf8, .ref qf9, .ref qf10, .ref qf11, .ref qf12, .ref qf13, .ref qf14, .ref qf15, .ref qf16, .int v17, .ref qf18, .int v19, .int v20])), (qf13, .inl (cf13, 60, .inl f13))]) [3, 2] rfl
        have hDc := hD.sub (ws' := [(h0, .inr (5, [.ref qf0, .int u9_2, .int v2, .int v3, .int v4, .int v5, .int v6, .int v7, .ref qf8, .ref qf9, .ref qf10, .ref qf11, .ref qf12, .ref qf13, .ref qf14, .ref qf15, .ref qf16, .int v17, .ref qf18, .int v19, .int v20])), (qf13, .inl (cf13, 60, .inl f13))]) [3, 2] (by decide) rfl
        have hKc := hK.sub (tys' := [(cf13, .int)]) [1] rfl
        have hFc := va_free (wc := [(h0, .inr (5, [.ref qf0, .int u9_2, .int v2, .int v3, .int v4, .int v5, .int v6, .int v7, .ref qf8, .ref qf9, .ref qf10, .ref qf11, .ref qf12, .ref qf13, .ref qf14, .ref qf15, .ref qf16, .int v17, .ref qf18, .int v19, .int v20])), (qf13, .inl (cf13, 60, .inl f13))]) hD hS hA [3, 2] rfl
        refine va_callv (va_runV (As := [.int 3]) (rest := []) ⟨hx, hb, hml, hown, hts⟩ (t5_goOn l dC dI H.size h0 3 qf0 u9_2 v2 v3 v4 v5 v6 v7 qf8 qf9 qf10 qf11 qf12 qf13 qf14 qf15 qf16 v17 qf18 v19 v20 cf13 f13 nf g910_0 hu_10) (cwV 1 hts gv_h3_16 rfl rfl rfl (by decide +kernel) ⟨Nat.le_of_ble_eq_true rfl, Nat.le_of_ble_eq_true rfl⟩) ⟨fun a U g mk q => by obtain ⟨q0, q1, qP, qK, qD⟩ := q; exact ⟨q0, q1, qP, va_K.moved (u := U) (U := U.calling g mk a) (Vm.Alike.refl U.vm) qK, qD⟩, va_recv hKc hPc (ci := 5) (q0 := 0) rfl rfl, fun U hU hW => ⟨rfl, by rw [hU], by rw [hU]; exact hPc, va_K.moved hW.alike hKc, hDc.weaken (fun _ _ _ _ => trivial)⟩⟩ rfl rfl hl.1 rfl (lv_room (Nat.le_of_ble_eq_true rfl)) dX5_stepJump_101 ⟨Nat.le_of_ble_eq_true rfl, Nat.le_of_ble_eq_true rfl⟩) hS (fun q _ h => hFc q h) hFc ?_
        clear hS
        intro u t H1 locs ht hvm hw hB hz1 hk1 hS
        obtain ⟨⟩ := u
        obtain ⟨hP1, hK1, hD1⟩ := hB
        rw [ht] at hP1
        have hK1 := va_K.moved hvm.symm hK1
        try dsimp only at hw
        have hPD := va_join (wr := [(qf18, .inr (3, [.ref qf18_0, .int v18_1, .int v18_2, .int v18_3, .ref qf18_4, .ref qf18_5, .ref qf18_6, .int v18_7, .int v18_8, .int v18_9, .int v18_10, .ref qf18_11, .int v18_12, .ref qf18_13])), (qf18_0, .inl (cf18_0, nb, .inl f18_0)), (qf14, .inl (cf14, 60, .inl g909_1)), (qf16, .inl (cf16, 1800, .inl f16))]) (w1 := [(h0, .inr (5, [.ref qf0, .int u9_2, .int v2, .int v3, .int v4, .int v5, .int v6, .int v7, .ref qf8, .ref qf9, .ref qf10, .ref qf11, .ref qf12, .ref qf13, .ref qf14, .ref qf15, .ref qf16, .int v17, .ref qf18, .int v19, .int v20])), (qf13, .inl (cf13, 60, .inl g910_0))]) hP hD [3, 2] [0, 1, 4, 5] rfl rfl (by decide) (by decide) hk1 hFc hP1 hD1
        clear hP hD
        obtain ⟨hP, hD⟩ := hPD
        replace hK := (hK.sub (tys' := [(cf18_0, .byte), (cf14, .int), (cf16, .int)]) [0, 2, 3] rfl).app hK1
        clear hPc hDc hKc hFc hP1 hK1 hD1 hz1 hk1 ht hvm
        generalize H1 = H at hP hS ⊢
        replace hP : va_P (dC, dI) vwCl [(qf18, .inr (3, [.ref qf18_0, .int v18_1, .int v18_2, .int v18_3, .ref qf18_4, .ref qf18_5, .ref qf18_6, .int v18_7, .int v18_8, .int v18_9, .int v18_10, .ref qf18_11, .int v18_12, .ref qf18_13])), (qf18_0, .inl (cf18_0, nb, .inl f18_0)), (qf14, .inl (cf14, 60, .inl g909_1)), (qf16, .inl (cf16, 1800, .inl f16)), (h0, .inr (5, [.ref qf0, .int u9_2, .int v2, .int v3, .int v4, .int v5, .int v6, .int v7, .ref qf8, .ref qf9, .ref qf10, .ref qf11, .ref qf12, .ref qf13, .ref qf14, .ref qf15, .ref qf16, .int v17, .ref qf18, .int v19, .int v20])), (qf13, .inl (cf13, 60, .inl g910_0))] H := hP
        replace hD : va_D A [(qf18, .inr (3, [.ref qf18_0, .int v18_1, .int v18_2, .int v18_3, .ref qf18_4, .ref qf18_5, .ref qf18_6, .int v18_7, .int v18_8, .int v18_9, .int v18_10, .ref qf18_11, .int v18_12, .ref qf18_13])), (qf18_0, .inl (cf18_0, nb, .inl f18_0)), (qf14, .inl (cf14, 60, .inl g909_1)), (qf16, .inl (cf16, 1800, .inl f16)), (h0, .inr (5, [.ref qf0, .int u9_2, .int v2, .int v3, .int v4, .int v5, .int v6, .int v7, .ref qf8, .ref qf9, .ref qf10, .ref qf11, .ref qf12, .ref qf13, .ref qf14, .ref qf15, .ref qf16, .int v17, .ref qf18, .int v19, .int v20])), (qf13, .inl (cf13, 60, .inl g910_0))] := hD
        replace hK : va_K (dC, dI) vwCl [(cf18_0, .byte), (cf14, .int), (cf16, .int), (cf13, .int)] s := hK
        have hr0 := Option.some.inj hsp
        clear hsp
        obtain ⟨hq0, hr1⟩ := Prod.mk.inj hr0
        clear hr0
        obtain ⟨hq1, hr2⟩ := Prod.mk.inj hr1
        clear hr1
        subst hq0
        subst hq1
        subst hr2
        have hP9 := hP.sub (ws' := [(h0, .inr (5, [.ref qf0, .int u9_2, .int v2, .int v3, .int v4, .int v5, .int v6, .int v7, .ref qf8, .ref qf9, .ref qf10, .ref qf11, .ref qf12, .ref qf13, .ref qf14, .ref qf15, .ref qf16, .int v17, .ref qf18, .int v19, .int v20])), (qf18, .inr (3, [.ref qf18_0, .int v18_1, .int v18_2, .int v18_3, .ref qf18_4, .ref qf18_5, .ref qf18_6, .int v18_7, .int v18_8, .int v18_9, .int v18_10, .ref qf18_11, .int v18_12, .ref qf18_13])), (qf18_0, .inl (cf18_0, nb, .inl f18_0)), (qf13, .inl (cf13, 60, .inl g910_0)), (qf14, .inl (cf14, 60, .inl g909_1)), (qf16, .inl (cf16, 1800, .inl f16))]) [4, 0, 1, 5, 2, 3] rfl
        have hD9 := hD.sub (ws' := [(h0, .inr (5, [.ref qf0, .int u9_2, .int v2, .int v3, .int v4, .int v5, .int v6, .int v7, .ref qf8, .ref qf9, .ref qf10, .ref qf11, .ref qf12, .ref qf13, .ref qf14, .ref qf15, .ref qf16, .int v17, .ref qf18, .int v19, .int v20])), (qf18, .inr (3, [.ref qf18_0, .int v18_1, .int v18_2, .int v18_3, .ref qf18_4, .ref qf18_5, .ref qf18_6, .int v18_7, .int v18_8, .int v18_9, .int v18_10, .ref qf18_11, .int v18_12, .ref qf18_13])), (qf18_0, .inl (cf18_0, nb, .inl f18_0)), (qf13, .inl (cf13, 60, .inl g910_0)), (qf14, .inl (cf14, 60, .inl g909_1)), (qf16, .inl (cf16, 1800, .inl f16))]) [4, 0, 1, 5, 2, 3] (by decide) rfl
        have hK9 := hK.sub (tys' := [(cf18_0, .byte), (cf13, .int), (cf14, .int), (cf16, .int)]) [0, 3, 1, 2] rfl
        exact W.vret hx hb hr (fun t ht hW => ⟨⟨(), rfl, trivial, by rw [ht]; exact hP9, va_K.moved hW.alike hK9, hD9⟩, hS.F ht⟩) hS.2.2 dX5_stepJump_104
      · rw [if_neg c_13] at hsp
        refine lv_iconst (v := 1) hx hb dX5_stepJump_39 (by decide) ?_
        refine lv_goto (tgt := 44) hx hb dX5_stepJump_40 (by decide) ?_
        refine lv_istore_n (lv' := [(3, .int 1), (0, .ref h0), (1, .int a1), (2, .int a2)]) hx hb dX5_stepJump_44 rfl hl (by decide) rfl (fun ls hl => ?_)
        refine lv_goto (tgt := 76) hx hb dX5_stepJump_45 (by decide) ?_
        refine lv_aload_n hx hb dX5_stepJump_76 rfl (lv_at hl 1 rfl) ?_
        refine lv_iload_n hx hb dX5_stepJump_77 rfl (lv_at hl 0 rfl) ?_
        refine lv_if_eq (tgt := 100) hx hb dX5_stepJump_78 (by decide) (fun c_15 => (show False by revert c_15; decide).elim) (fun c_15 => ?_)
        refine lv_aload_n hx hb dX5_stepJump_81 rfl (lv_at hl 1 rfl) ?_
        refine va_get (D := (dC, dI)) (ci := 5) (v := .ref qf18) (C := RX5) (T := TX5) (N := 21) hx hb hts uV_h3_X5 hown hK hP 3 rfl rfl 18 (by decide) (hts (.fieldLink RX5 46 "ClassMill$Machine" "image" "LClassMill$Image;") mw_h3_138) (fun _ h9 => h9) rfl dX5_stepJump_82 ?_
        refine lv_aload_n hx hb dX5_stepJump_85 rfl (lv_at hl 1 rfl) ?_
        refine va_get (D := (dC, dI)) (ci := 5) (v := .int v19) (C := RX5) (T := TX5) (N := 21) hx hb hts uV_h3_X5 hown hK hP 3 rfl rfl 19 (by decide) (hts (.fieldLink RX5 129 "ClassMill$Machine" "code" "I") mw_h3_139) (fun _ h9 => h9) rfl dX5_stepJump_86 ?_
        refine lv_iload_n hx hb dX5_stepJump_89 rfl (lv_at hl 3 rfl) ?_
        refine lv_iadd hx hb dX5_stepJump_90 ?_
        refine lv_iconst (v := 1) hx hb dX5_stepJump_91 (by decide) ?_
        refine lv_iadd hx hb dX5_stepJump_92 ?_
        obtain ⟨u11_0, hu_11, hsp⟩ := ox_bind hsp
        try dsimp only at hsp
        have hPc := hP.sub (ws' := [(qf18, .inr (3, [.ref qf18_0, .int v18_1, .int v18_2, .int v18_3, .ref qf18_4, .ref qf18_5, .ref qf18_6, .int v18_7, .int v18_8, .int v18_9, .int v18_10, .ref qf18_11, .int v18_12, .ref qf18_13])), (qf18_0, .inl (cf18_0, nb, .inl f18_0))]) [0, 1] rfl
        have hDc := hD.sub (ws' := [(qf18, .inr (3, [.ref qf18_0, .int v18_1, .int v18_2, .int v18_3, .ref qf18_4, .ref qf18_5, .ref qf18_6, .int v18_7, .int v18_8, .int v18_9, .int v18_10, .ref qf18_11, .int v18_12, .ref qf18_13])), (qf18_0, .inl (cf18_0, nb, .inl f18_0))]) [0, 1] (by decide) rfl
        have hKc := hK.sub (tys' := [(cf18_0, .byte)]) [0] rfl
        have hFc := va_free (wc := [(qf18, .inr (3, [.ref qf18_0, .int v18_1, .int v18_2, .int v18_3, .ref qf18_4, .ref qf18_5, .ref qf18_6, .int v18_7, .int v18_8, .int v18_9, .int v18_10, .ref qf18_11, .int v18_12, .ref qf18_13])), (qf18_0, .inl (cf18_0, nb, .inl f18_0))]) hD hS hA [0, 1] rfl
        refine va_calli (va_runV (As := [.int ((v19 + a2) + 1)]) (rest := [.ref h0]) ⟨hx, hb, hml, hown, hts⟩ (ti_pairAt l dC dI H.size qf18 (((v19 + a2) + 1)) qf18_0 v18_1 v18_2 v18_3 qf18_4 qf18_5 qf18_6 v18_7 v18_8 v18_9 v18_10 qf18_11 v18_12 qf18_13 cf18_0 nb f18_0 nf u11_0 hu_11) (cwV 1 hts gv_h3_20 rfl rfl rfl (by decide +kernel) ⟨Nat.le_of_ble_eq_true rfl, Nat.le_of_ble_eq_true rfl⟩) ⟨fun a U g mk q => by obtain ⟨q0, q1, qP, qK, qD⟩ := q; exact ⟨q0, q1, qP, va_K.moved (u := U) (U := U.calling g mk a) (Vm.Alike.refl U.vm) qK, qD⟩, va_recv hKc hPc (ci := 3) (q0 := 0) rfl rfl, fun U hU hW => ⟨rfl, by rw [hU], by rw [hU]; exact hPc, va_K.moved hW.alike hKc, hDc.weaken (fun _ _ _ _ => trivial)⟩⟩ rfl rfl hl.1 rfl (lv_room (Nat.le_of_ble_eq_true rfl)) dX5_stepJump_93 ⟨Nat.le_of_ble_eq_true rfl, Nat.le_of_ble_eq_true rfl⟩) hS (fun q _ h => hFc q h) hFc ?_
        clear hS
        intro r_16 u t H1 locs ht hvm hw hB hz1 hk1 hS
        obtain ⟨⟩ := u
        obtain ⟨hP1, hK1, hD1⟩ := hB
        rw [ht] at hP1
        have hK1 := va_K.moved hvm.symm hK1
        try dsimp only at hw
        have hPD := va_join (wr := [(qf13, .inl (cf13, 60, .inl f13)), (h0, .inr (5, [.ref qf0, .int u9_2, .int v2, .int v3, .int v4, .int v5, .int v6, .int v7, .ref qf8, .ref qf9, .ref qf10, .ref qf11, .ref qf12, .ref qf13, .ref qf14, .ref qf15, .ref qf16, .int v17, .ref qf18, .int v19, .int v20])), (qf14, .inl (cf14, 60, .inl g909_1)), (qf16, .inl (cf16, 1800, .inl f16))]) (w1 := [(qf18, .inr (3, [.ref qf18_0, .int v18_1, .int v18_2, .int v18_3, .ref qf18_4, .ref qf18_5, .ref qf18_6, .int v18_7, .int v18_8, .int v18_9, .int v18_10, .ref qf18_11, .int v18_12, .ref qf18_13])), (qf18_0, .inl (cf18_0, nb, .inl f18_0))]) hP hD [0, 1] [2, 3, 4, 5] rfl rfl (by decide) (by decide) hk1 hFc hP1 hD1
        clear hP hD
        obtain ⟨hP, hD⟩ := hPD
        replace hK := (hK.sub (tys' := [(cf13, .int), (cf14, .int), (cf16, .int)]) [1, 2, 3] rfl).app hK1
        clear hPc hDc hKc hFc hP1 hK1 hD1 hz1 hk1 ht hvm
        generalize H1 = H at hP hS ⊢
        replace hP : va_P (dC, dI) vwCl [(qf13, .inl (cf13, 60, .inl f13)), (h0, .inr (5, [.ref qf0, .int u9_2, .int v2, .int v3, .int v4, .int v5, .int v6, .int v7, .ref qf8, .ref qf9, .ref qf10, .ref qf11, .ref qf12, .ref qf13, .ref qf14, .ref qf15, .ref qf16, .int v17, .ref qf18, .int v19, .int v20])), (qf14, .inl (cf14, 60, .inl g909_1)), (qf16, .inl (cf16, 1800, .inl f16)), (qf18, .inr (3, [.ref qf18_0, .int v18_1, .int v18_2, .int v18_3, .ref qf18_4, .ref qf18_5, .ref qf18_6, .int v18_7, .int v18_8, .int v18_9, .int v18_10, .ref qf18_11, .int v18_12, .ref qf18_13])), (qf18_0, .inl (cf18_0, nb, .inl f18_0))] H := hP
        replace hD : va_D A [(qf13, .inl (cf13, 60, .inl f13)), (h0, .inr (5, [.ref qf0, .int u9_2, .int v2, .int v3, .int v4, .int v5, .int v6, .int v7, .ref qf8, .ref qf9, .ref qf10, .ref qf11, .ref qf12, .ref qf13, .ref qf14, .ref qf15, .ref qf16, .int v17, .ref qf18, .int v19, .int v20])), (qf14, .inl (cf14, 60, .inl g909_1)), (qf16, .inl (cf16, 1800, .inl f16)), (qf18, .inr (3, [.ref qf18_0, .int v18_1, .int v18_2, .int v18_3, .ref qf18_4, .ref qf18_5, .ref qf18_6, .int v18_7, .int v18_8, .int v18_9, .int v18_10, .ref qf18_11, .int v18_12, .ref qf18_13])), (qf18_0, .inl (cf18_0, nb, .inl f18_0))] := hD
        replace hK : va_K (dC, dI) vwCl [(cf13, .int), (cf14, .int), (cf16, .int), (cf18_0, .byte)] s := hK
        obtain rfl := hw
        refine lv_i2s hx hb dX5_stepJump_96 rfl ?_
        refine lv_goto (tgt := 101) hx hb dX5_stepJump_97 (by decide) ?_
        obtain ⟨g912_0, hu_12, hsp⟩ := ox_bind hsp
        try dsimp only at hsp
        have hPc := hP.sub (ws' := [(h0, .inr (5, [.ref qf0, .int u9_2, .int v2, .int v3, .int v4, .int v5, .int v6, .int v7, .ref qf8, .ref qf9, .ref qf10, .ref qf11, .ref qf12, .ref qf13, .ref qf14, .ref qf15, .ref qf16, .int v17, .ref qf18, .int v19, .int v20])), (qf13, .inl (cf13, 60, .inl f13))]) [1, 0] rfl
        have hDc := hD.sub (ws' := [(h0, .inr (5, [.ref qf0, .int u9_2, .int v2, .int v3, .int v4, .int v5, .int v6, .int v7, .ref qf8, .ref qf9, .ref qf10, .ref qf11, .ref qf12, .ref qf13, .ref qf14, .ref qf15, .ref qf16, .int v17, .ref qf18, .int v19, .int v20])), (qf13, .inl (cf13, 60, .inl f13))]) [1, 0] (by decide) rfl
        have hKc := hK.sub (tys' := [(cf13, .int)]) [0] rfl
        have hFc := va_free (wc := [(h0, .inr (5, [.ref qf0, .int u9_2, .int v2, .int v3, .int v4, .int v5, .int v6, .int v7, .ref qf8, .ref qf9, .ref qf10, .ref qf11, .ref qf12, .ref qf13, .ref qf14, .ref qf15, .ref qf16, .int v17, .ref qf18, .int v19, .int v20])), (qf13, .inl (cf13, 60, .inl f13))]) hD hS hA [1, 0] rfl
        refine va_callv (va_runV (As := [.int ((u11_0 : Int32).toInt16.toInt32)]) (rest := []) ⟨hx, hb, hml, hown, hts⟩ (t5_goOn l dC dI H.size h0 (((u11_0 : Int32).toInt16.toInt32)) qf0 u9_2 v2 v3 v4 v5 v6 v7 qf8 qf9 qf10 qf11 qf12 qf13 qf14 qf15 qf16 v17 qf18 v19 v20 cf13 f13 nf g912_0 hu_12) (cwV 1 hts gv_h3_16 rfl rfl rfl (by decide +kernel) ⟨Nat.le_of_ble_eq_true rfl, Nat.le_of_ble_eq_true rfl⟩) ⟨fun a U g mk q => by obtain ⟨q0, q1, qP, qK, qD⟩ := q; exact ⟨q0, q1, qP, va_K.moved (u := U) (U := U.calling g mk a) (Vm.Alike.refl U.vm) qK, qD⟩, va_recv hKc hPc (ci := 5) (q0 := 0) rfl rfl, fun U hU hW => ⟨rfl, by rw [hU], by rw [hU]; exact hPc, va_K.moved hW.alike hKc, hDc.weaken (fun _ _ _ _ => trivial)⟩⟩ rfl rfl hl.1 rfl (lv_room (Nat.le_of_ble_eq_true rfl)) dX5_stepJump_101 ⟨Nat.le_of_ble_eq_true rfl, Nat.le_of_ble_eq_true rfl⟩) hS (fun q _ h => hFc q h) hFc ?_
        clear hS
        intro u t H1 locs ht hvm hw hB hz1 hk1 hS
        obtain ⟨⟩ := u
        obtain ⟨hP1, hK1, hD1⟩ := hB
        rw [ht] at hP1
        have hK1 := va_K.moved hvm.symm hK1
        try dsimp only at hw
        have hPD := va_join (wr := [(qf14, .inl (cf14, 60, .inl g909_1)), (qf16, .inl (cf16, 1800, .inl f16)), (qf18, .inr (3, [.ref qf18_0, .int v18_1, .int v18_2, .int v18_3, .ref qf18_4, .ref qf18_5, .ref qf18_6, .int v18_7, .int v18_8, .int v18_9, .int v18_10, .ref qf18_11, .int v18_12, .ref qf18_13])), (qf18_0, .inl (cf18_0, nb, .inl f18_0))]) (w1 := [(h0, .inr (5, [.ref qf0, .int u9_2, .int v2, .int v3, .int v4, .int v5, .int v6, .int v7, .ref qf8, .ref qf9, .ref qf10, .ref qf11, .ref qf12, .ref qf13, .ref qf14, .ref qf15, .ref qf16, .int v17, .ref qf18, .int v19, .int v20])), (qf13, .inl (cf13, 60, .inl g912_0))]) hP hD [1, 0] [2, 3, 4, 5] rfl rfl (by decide) (by decide) hk1 hFc hP1 hD1
        clear hP hD
        obtain ⟨hP, hD⟩ := hPD
        replace hK := (hK.sub (tys' := [(cf14, .int), (cf16, .int), (cf18_0, .byte)]) [1, 2, 3] rfl).app hK1
        clear hPc hDc hKc hFc hP1 hK1 hD1 hz1 hk1 ht hvm
        generalize H1 = H at hP hS ⊢
        replace hP : va_P (dC, dI) vwCl [(qf14, .inl (cf14, 60, .inl g909_1)), (qf16, .inl (cf16, 1800, .inl f16)), (qf18, .inr (3, [.ref qf18_0, .int v18_1, .int v18_2, .int v18_3, .ref qf18_4, .ref qf18_5, .ref qf18_6, .int v18_7, .int v18_8, .int v18_9, .int v18_10, .ref qf18_11, .int v18_12, .ref qf18_13])), (qf18_0, .inl (cf18_0, nb, .inl f18_0)), (h0, .inr (5, [.ref qf0, .int u9_2, .int v2, .int v3, .int v4, .int v5, .int v6, .int v7, .ref qf8, .ref qf9, .ref qf10, .ref qf11, .ref qf12, .ref qf13, .ref qf14, .ref qf15, .ref qf16, .int v17, .ref qf18, .int v19, .int v20])), (qf13, .inl (cf13, 60, .inl g912_0))] H := hP
        replace hD : va_D A [(qf14, .inl (cf14, 60, .inl g909_1)), (qf16, .inl (cf16, 1800, .inl f16)), (qf18, .inr (3, [.ref qf18_0, .int v18_1, .int v18_2, .int v18_3, .ref qf18_4, .ref qf18_5, .ref qf18_6, .int v18_7, .int v18_8, .int v18_9, .int v18_10, .ref qf18_11, .int v18_12, .ref qf18_13])), (qf18_0, .inl (cf18_0, nb, .inl f18_0)), (h0, .inr (5, [.ref qf0, .int u9_2, .int v2, .int v3, .int v4, .int v5, .int v6, .int v7, .ref qf8, .ref qf9, .ref qf10, .ref qf11, .ref qf12, .ref qf13, .ref qf14, .ref qf15, .ref qf16, .int v17, .ref qf18, .int v19, .int v20])), (qf13, .inl (cf13, 60, .inl g912_0))] := hD
        replace hK : va_K (dC, dI) vwCl [(cf14, .int), (cf16, .int), (cf18_0, .byte), (cf13, .int)] s := hK
        have hr0 := Option.some.inj hsp
        clear hsp
        obtain ⟨hq0, hr1⟩ := Prod.mk.inj hr0
        clear hr0
        obtain ⟨hq1, hr2⟩ := Prod.mk.inj hr1
        clear hr1
        subst hq0
        subst hq1
        subst hr2
        have hP9 := hP.sub (ws' := [(h0, .inr (5, [.ref qf0, .int u9_2, .int v2, .int v3, .int v4, .int v5, .int v6, .int v7, .ref qf8, .ref qf9, .ref qf10, .ref qf11, .ref qf12, .ref qf13, .ref qf14, .ref qf15, .ref qf16, .int v17, .ref qf18, .int v19, .int v20])), (qf18, .inr (3, [.ref qf18_0, .int v18_1, .int v18_2, .int v18_3, .ref qf18_4, .ref qf18_5, .ref qf18_6, .int v18_7, .int v18_8, .int v18_9, .int v18_10, .ref qf18_11, .int v18_12, .ref qf18_13])), (qf18_0, .inl (cf18_0, nb, .inl f18_0)), (qf13, .inl (cf13, 60, .inl g912_0)), (qf14, .inl (cf14, 60, .inl g909_1)), (qf16, .inl (cf16, 1800, .inl f16))]) [4, 2, 3, 5, 0, 1] rfl
        have hD9 := hD.sub (ws' := [(h0, .inr (5, [.ref qf0, .int u9_2, .int v2, .int v3, .int v4, .int v5, .int v6, .int v7, .ref qf8, .ref qf9, .ref qf10, .ref qf11, .ref qf12, .ref qf13, .ref qf14, .ref qf15, .ref qf16, .int v17, .ref qf18, .int v19, .int v20])), (qf18, .inr (3, [.ref qf18_0, .int v18_1, .int v18_2, .int v18_3, .ref qf18_4, .ref qf18_5, .ref qf18_6, .int v18_7, .int v18_8, .int v18_9, .int v18_10, .ref qf18_11, .int v18_12, .ref qf18_13])), (qf18_0, .inl (cf18_0, nb, .inl f18_0)), (qf13, .inl (cf13, 60, .inl g912_0)), (qf14, .inl (cf14, 60, .inl g909_1)), (qf16, .inl (cf16, 1800, .inl f16))]) [4, 2, 3, 5, 0, 1] (by decide) rfl
        have hK9 := hK.sub (tys' := [(cf18_0, .byte), (cf13, .int), (cf14, .int), (cf16, .int)]) [2, 3, 0, 1] rfl
        exact W.vret hx hb hr (fun t ht hW => ⟨⟨(), rfl, trivial, by rw [ht]; exact hP9, va_K.moved hW.alike hK9, hD9⟩, hS.F ht⟩) hS.2.2 dX5_stepJump_104
  · rw [if_pos c_1] at hsp
    refine lv_aload_n hx hb dX5_stepJump_9 rfl (lv_at hl 1 rfl) ?_
    obtain ⟨⟨u13_0, g913_1, u13_2⟩, hu_13, hsp⟩ := ox_bind hsp
    try dsimp only at hsp
    have hPc := hP.sub (ws' := [(h0, .inr (5, [.ref qf0, .int v1, .int v2, .int v3, .int v4, .int v5, .int v6, .int v7, .ref qf8, .ref qf9, .ref qf10, .ref qf11, .ref qf12, .ref qf13, .ref qf14, .ref qf15, .ref qf16, .int v17, .ref qf18, .int v19, .int v20])), (qf14, .inl (cf14, 60, .inl f14)), (qf16, .inl (cf16, 1800, .inl f16))]) [0, 4, 5] rfl
    have hDc := hD.sub (ws' := [(h0, .inr (5, [.ref qf0, .int v1, .int v2, .int v3, .int v4, .int v5, .int v6, .int v7, .ref qf8, .ref qf9, .ref qf10, .ref qf11, .ref qf12, .ref qf13, .ref qf14, .ref qf15, .ref qf16, .int v17, .ref qf18, .int v19, .int v20])), (qf14, .inl (cf14, 60, .inl f14)), (qf16, .inl (cf16, 1800, .inl f16))]) [0, 4, 5] (by decide) rfl
    have hKc := hK.sub (tys' := [(cf14, .int), (cf16, .int)]) [2, 3] rfl
    have hFc := va_free (wc := [(h0, .inr (5, [.ref qf0, .int v1, .int v2, .int v3, .int v4, .int v5, .int v6, .int v7, .ref qf8, .ref qf9, .ref qf10, .ref qf11, .ref qf12, .ref qf13, .ref qf14, .ref qf15, .ref qf16, .int v17, .ref qf18, .int v19, .int v20])), (qf14, .inl (cf14, 60, .inl f14)), (qf16, .inl (cf16, 1800, .inl f16))]) hD hS hA [0, 4, 5] rfl
    refine va_calli (va_runV (As := []) (rest := []) ⟨hx, hb, hml, hown, hts⟩ (t5_pop l dC dI H.size h0 qf0 v1 v2 v3 v4 v5 v6 v7 qf8 qf9 qf10 qf11 qf12 qf13 qf14 qf15 qf16 v17 qf18 v19 v20 cf14 f14 cf16 f16 nf u13_0 g913_1 u13_2 hu_13) (cwV 0 hts gv_h3_19 rfl rfl rfl (by decide +kernel) ⟨Nat.le_of_ble_eq_true rfl, Nat.le_of_ble_eq_true rfl⟩) ⟨fun a U g mk q => by obtain ⟨q0, q1, qP, qK, qD⟩ := q; exact ⟨q0, q1, qP, va_K.moved (u := U) (U := U.calling g mk a) (Vm.Alike.refl U.vm) qK, qD⟩, va_recv hKc hPc (ci := 5) (q0 := 0) rfl rfl, fun U hU hW => ⟨rfl, by rw [hU], by rw [hU]; exact hPc, va_K.moved hW.alike hKc, hDc.weaken (fun _ _ _ _ => trivial)⟩⟩ rfl rfl hl.1 rfl (lv_room (Nat.le_of_ble_eq_true rfl)) dX5_stepJump_10 ⟨Nat.le_of_ble_eq_true rfl, Nat.le_of_ble_eq_true rfl⟩) hS (fun q _ h => hFc q h) hFc ?_
    clear hS
    intro r_17 u t H1 locs ht hvm hw hB hz1 hk1 hS
    obtain ⟨⟩ := u
    obtain ⟨hP1, hK1, hD1⟩ := hB
    rw [ht] at hP1
    have hK1 := va_K.moved hvm.symm hK1
    try dsimp only at hw
    have hPD := va_join (wr := [(qf18, .inr (3, [.ref qf18_0, .int v18_1, .int v18_2, .int v18_3, .ref qf18_4, .ref qf18_5, .ref qf18_6, .int v18_7, .int v18_8, .int v18_9, .int v18_10, .ref qf18_11, .int v18_12, .ref qf18_13])), (qf18_0, .inl (cf18_0, nb, .inl f18_0)), (qf13, .inl (cf13, 60, .inl f13))]) (w1 := [(h0, .inr (5, [.ref qf0, .int u13_2, .int v2, .int v3, .int v4, .int v5, .int v6, .int v7, .ref qf8, .ref qf9, .ref qf10, .ref qf11, .ref qf12, .ref qf13, .ref qf14, .ref qf15, .ref qf16, .int v17, .ref qf18, .int v19, .int v20])), (qf14, .inl (cf14, 60, .inl g913_1)), (qf16, .inl (cf16, 1800, .inl f16))]) hP hD [0, 4, 5] [1, 2, 3] rfl rfl (by decide) (by decide) hk1 hFc hP1 hD1
    clear hP hD
    obtain ⟨hP, hD⟩ := hPD
    replace hK := (hK.sub (tys' := [(cf18_0, .byte), (cf13, .int)]) [0, 1] rfl).app hK1
    clear hPc hDc hKc hFc hP1 hK1 hD1 hz1 hk1 ht hvm
    generalize H1 = H at hP hS ⊢
    replace hP : va_P (dC, dI) vwCl [(qf18, .inr (3, [.ref qf18_0, .int v18_1, .int v18_2, .int v18_3, .ref qf18_4, .ref qf18_5, .ref qf18_6, .int v18_7, .int v18_8, .int v18_9, .int v18_10, .ref qf18_11, .int v18_12, .ref qf18_13])), (qf18_0, .inl (cf18_0, nb, .inl f18_0)), (qf13, .inl (cf13, 60, .inl f13)), (h0, .inr (5, [.ref qf0, .int u13_2, .int v2, .int v3, .int v4, .int v5, .int v6, .int v7, .ref qf8, .ref qf9, .ref qf10, .ref qf11, .ref qf12, .ref qf13, .ref qf14, .ref qf15, .ref qf16, .int v17, .ref qf18, .int v19, .int v20])), (qf14, .inl (cf14, 60, .inl g913_1)), (qf16, .inl (cf16, 1800, .inl f16))] H := hP
    replace hD : va_D A [(qf18, .inr (3, [.ref qf18_0, .int v18_1, .int v18_2, .int v18_3, .ref qf18_4, .ref qf18_5, .ref qf18_6, .int v18_7, .int v18_8, .int v18_9, .int v18_10, .ref qf18_11, .int v18_12, .ref qf18_13])), (qf18_0, .inl (cf18_0, nb, .inl f18_0)), (qf13, .inl (cf13, 60, .inl f13)), (h0, .inr (5, [.ref qf0, .int u13_2, .int v2, .int v3, .int v4, .int v5, .int v6, .int v7, .ref qf8, .ref qf9, .ref qf10, .ref qf11, .ref qf12, .ref qf13, .ref qf14, .ref qf15, .ref qf16, .int v17, .ref qf18, .int v19, .int v20])), (qf14, .inl (cf14, 60, .inl g913_1)), (qf16, .inl (cf16, 1800, .inl f16))] := hD
    replace hK : va_K (dC, dI) vwCl [(cf18_0, .byte), (cf13, .int), (cf14, .int), (cf16, .int)] s := hK
    obtain rfl := hw
    refine lv_if_ne (tgt := 20) hx hb dX5_stepJump_13 (by decide) (fun c_18 => ?_) (fun c_18 => ?_)
    · rw [if_neg c_18] at hsp
      refine lv_iconst (v := 0) hx hb dX5_stepJump_20 (by decide) ?_
      refine lv_istore_n (lv' := [(3, .int 0), (0, .ref h0), (1, .int a1), (2, .int a2)]) hx hb dX5_stepJump_21 rfl hl (by decide) rfl (fun ls hl => ?_)
      refine lv_goto (tgt := 76) hx hb dX5_stepJump_22 (by decide) ?_
      refine lv_aload_n hx hb dX5_stepJump_76 rfl (lv_at hl 1 rfl) ?_
      refine lv_iload_n hx hb dX5_stepJump_77 rfl (lv_at hl 0 rfl) ?_
      refine lv_if_eq (tgt := 100) hx hb dX5_stepJump_78 (by decide) (fun c_19 => ?_) (fun c_19 => (show False by revert c_19; decide).elim)
      refine lv_iconst (v := 3) hx hb dX5_stepJump_100 (by decide) ?_
      obtain ⟨g914_0, hu_14, hsp⟩ := ox_bind hsp
      try dsimp only at hsp
      have hPc := hP.sub (ws' := [(h0, .inr (5, [.ref qf0, .int u13_2, .int v2, .int v3, .int v4, .int v5, .int v6, .int v7, .ref qf8, .ref qf9, .ref qf10, .ref qf11, .ref qf12, .ref qf13, .ref qf14, .ref qf15, .ref qf16, .int v17, .ref qf18, .int v19, .int v20])), (qf13, .inl (cf13, 60, .inl f13))]) [3, 2] rfl
      have hDc := hD.sub (ws' := [(h0, .inr (5, [.ref qf0, .int u13_2, .int v2, .int v3, .int v4, .int v5, .int v6, .int v7, .ref qf8, .ref qf9, .ref qf10, .ref qf11, .ref qf12, .ref qf13, .ref qf14, .ref qf15, .ref qf16, .int v17, .ref qf18, .int v19, .int v20])), (qf13, .inl (cf13, 60, .inl f13))]) [3, 2] (by decide) rfl
      have hKc := hK.sub (tys' := [(cf13, .int)]) [1] rfl
      have hFc := va_free (wc := [(h0, .inr (5, [.ref qf0, .int u13_2, .int v2, .int v3, .int v4, .int v5, .int v6, .int v7, .ref qf8, .ref qf9, .ref qf10, .ref qf11, .ref qf12, .ref qf13, .ref qf14, .ref qf15, .ref qf16, .int v17, .ref qf18, .int v19, .int v20])), (qf13, .inl (cf13, 60, .inl f13))]) hD hS hA [3, 2] rfl
      refine va_callv (va_runV (As := [.int 3]) (rest := []) ⟨hx, hb, hml, hown, hts⟩ (t5_goOn l dC dI H.size h0 3 qf0 u13_2 v2 v3 v4 v5 v6 v7 qf8 qf9 qf10 qf11 qf12 qf13 qf14 qf15 qf16 v17 qf18 v19 v20 cf13 f13 nf g914_0 hu_14) (cwV 1 hts gv_h3_16 rfl rfl rfl (by decide +kernel) ⟨Nat.le_of_ble_eq_true rfl, Nat.le_of_ble_eq_true rfl⟩) ⟨fun a U g mk q => by obtain ⟨q0, q1, qP, qK, qD⟩ := q; exact ⟨q0, q1, qP, va_K.moved (u := U) (U := U.calling g mk a) (Vm.Alike.refl U.vm) qK, qD⟩, va_recv hKc hPc (ci := 5) (q0 := 0) rfl rfl, fun U hU hW => ⟨rfl, by rw [hU], by rw [hU]; exact hPc, va_K.moved hW.alike hKc, hDc.weaken (fun _ _ _ _ => trivial)⟩⟩ rfl rfl hl.1 rfl (lv_room (Nat.le_of_ble_eq_true rfl)) dX5_stepJump_101 ⟨Nat.le_of_ble_eq_true rfl, Nat.le_of_ble_eq_true rfl⟩) hS (fun q _ h => hFc q h) hFc ?_
      clear hS
      intro u t H1 locs ht hvm hw hB hz1 hk1 hS
      obtain ⟨⟩ := u
      obtain ⟨hP1, hK1, hD1⟩ := hB
      rw [ht] at hP1
      have hK1 := va_K.moved hvm.symm hK1
      try dsimp only at hw
      have hPD := va_join (wr := [(qf18, .inr (3, [.ref qf18_0, .int v18_1, .int v18_2, .int v18_3, .ref qf18_4, .ref qf18_5, .ref qf18_6, .int v18_7, .int v18_8, .int v18_9, .int v18_10, .ref qf18_11, .int v18_12, .ref qf18_13])), (qf18_0, .inl (cf18_0, nb, .inl f18_0)), (qf14, .inl (cf14, 60, .inl g913_1)), (qf16, .inl (cf16, 1800, .inl f16))]) (w1 := [(h0, .inr (5, [.ref qf0, .int u13_2, .int v2, .int v3, .int v4, .int v5, .int v6, .int v7, .ref qf8, .ref qf9, .ref qf10, .ref qf11, .ref qf12, .ref qf13, .ref qf14, .ref qf15, .ref qf16, .int v17, .ref qf18, .int v19, .int v20])), (qf13, .inl (cf13, 60, .inl g914_0))]) hP hD [3, 2] [0, 1, 4, 5] rfl rfl (by decide) (by decide) hk1 hFc hP1 hD1
      clear hP hD
      obtain ⟨hP, hD⟩ := hPD
      replace hK := (hK.sub (tys' := [(cf18_0, .byte), (cf14, .int), (cf16, .int)]) [0, 2, 3] rfl).app hK1
      clear hPc hDc hKc hFc hP1 hK1 hD1 hz1 hk1 ht hvm
      generalize H1 = H at hP hS ⊢
      replace hP : va_P (dC, dI) vwCl [(qf18, .inr (3, [.ref qf18_0, .int v18_1, .int v18_2, .int v18_3, .ref qf18_4, .ref qf18_5, .ref qf18_6, .int v18_7, .int v18_8, .int v18_9, .int v18_10, .ref qf18_11, .int v18_12, .ref qf18_13])), (qf18_0, .inl (cf18_0, nb, .inl f18_0)), (qf14, .inl (cf14, 60, .inl g913_1)), (qf16, .inl (cf16, 1800, .inl f16)), (h0, .inr (5, [.ref qf0, .int u13_2, .int v2, .int v3, .int v4, .int v5, .int v6, .int v7, .ref qf8, .ref qf9, .ref qf10, .ref qf11, .ref qf12, .ref qf13, .ref qf14, .ref qf15, .ref qf16, .int v17, .ref qf18, .int v19, .int v20])), (qf13, .inl (cf13, 60, .inl g914_0))] H := hP
      replace hD : va_D A [(qf18, .inr (3, [.ref qf18_0, .int v18_1, .int v18_2, .int v18_3, .ref qf18_4, .ref qf18_5, .ref qf18_6, .int v18_7, .int v18_8, .int v18_9, .int v18_10, .ref qf18_11, .int v18_12, .ref qf18_13])), (qf18_0, .inl (cf18_0, nb, .inl f18_0)), (qf14, .inl (cf14, 60, .inl g913_1)), (qf16, .inl (cf16, 1800, .inl f16)), (h0, .inr (5, [.ref qf0, .int u13_2, .int v2, .int v3, .int v4, .int v5, .int v6, .int v7, .ref qf8, .ref qf9, .ref qf10, .ref qf11, .ref qf12, .ref qf13, .ref qf14, .ref qf15, .ref qf16, .int v17, .ref qf18, .int v19, .int v20])), (qf13, .inl (cf13, 60, .inl g914_0))] := hD
      replace hK : va_K (dC, dI) vwCl [(cf18_0, .byte), (cf14, .int), (cf16, .int), (cf13, .int)] s := hK
      have hr0 := Option.some.inj hsp
      clear hsp
      obtain ⟨hq0, hr1⟩ := Prod.mk.inj hr0
      clear hr0
      obtain ⟨hq1, hr2⟩ := Prod.mk.inj hr1
      clear hr1
      subst hq0
      subst hq1
      subst hr2
      have hP9 := hP.sub (ws' := [(h0, .inr (5, [.ref qf0, .int u13_2, .int v2, .int v3, .int v4, .int v5, .int v6, .int v7, .ref qf8, .ref qf9, .ref qf10, .ref qf11, .ref qf12, .ref qf13, .ref qf14, .ref qf15, .ref qf16, .int v17, .ref qf18, .int v19, .int v20])), (qf18, .inr (3, [.ref qf18_0, .int v18_1, .int v18_2, .int v18_3, .ref qf18_4, .ref qf18_5, .ref qf18_6, .int v18_7, .int v18_8, .int v18_9, .int v18_10, .ref qf18_11, .int v18_12, .ref qf18_13])), (qf18_0, .inl (cf18_0, nb, .inl f18_0)), (qf13, .inl (cf13, 60, .inl g914_0)), (qf14, .inl (cf14, 60, .inl g913_1)), (qf16, .inl (cf16, 1800, .inl f16))]) [4, 0, 1, 5, 2, 3] rfl
      have hD9 := hD.sub (ws' := [(h0, .inr (5, [.ref qf0, .int u13_2, .int v2, .int v3, .int v4, .int v5, .int v6, .int v7, .ref qf8, .ref qf9, .ref qf10, .ref qf11, .ref qf12, .ref qf13, .ref qf14, .ref qf15, .ref qf16, .int v17, .ref qf18, .int v19, .int v20])), (qf18, .inr (3, [.ref qf18_0, .int v18_1, .int v18_2, .int v18_3, .ref qf18_4, .ref qf18_5, .ref qf18_6, .int v18_7, .int v18_8, .int v18_9, .int v18_10, .ref qf18_11, .int v18_12, .ref qf18_13])), (qf18_0, .inl (cf18_0, nb, .inl f18_0)), (qf13, .inl (cf13, 60, .inl g914_0)), (qf14, .inl (cf14, 60, .inl g913_1)), (qf16, .inl (cf16, 1800, .inl f16))]) [4, 0, 1, 5, 2, 3] (by decide) rfl
      have hK9 := hK.sub (tys' := [(cf18_0, .byte), (cf13, .int), (cf14, .int), (cf16, .int)]) [0, 3, 1, 2] rfl
      exact W.vret hx hb hr (fun t ht hW => ⟨⟨(), rfl, trivial, by rw [ht]; exact hP9, va_K.moved hW.alike hK9, hD9⟩, hS.F ht⟩) hS.2.2 dX5_stepJump_104
    · rw [if_pos c_18] at hsp
      refine lv_iconst (v := 1) hx hb dX5_stepJump_16 (by decide) ?_
      refine lv_goto (tgt := 21) hx hb dX5_stepJump_17 (by decide) ?_
      refine lv_istore_n (lv' := [(3, .int 1), (0, .ref h0), (1, .int a1), (2, .int a2)]) hx hb dX5_stepJump_21 rfl hl (by decide) rfl (fun ls hl => ?_)
      refine lv_goto (tgt := 76) hx hb dX5_stepJump_22 (by decide) ?_
      refine lv_aload_n hx hb dX5_stepJump_76 rfl (lv_at hl 1 rfl) ?_
      refine lv_iload_n hx hb dX5_stepJump_77 rfl (lv_at hl 0 rfl) ?_
      refine lv_if_eq (tgt := 100) hx hb dX5_stepJump_78 (by decide) (fun c_20 => (show False by revert c_20; decide).elim) (fun c_20 => ?_)
      refine lv_aload_n hx hb dX5_stepJump_81 rfl (lv_at hl 1 rfl) ?_
      refine va_get (D := (dC, dI)) (ci := 5) (v := .ref qf18) (C := RX5) (T := TX5) (N := 21) hx hb hts uV_h3_X5 hown hK hP 3 rfl rfl 18 (by decide) (hts (.fieldLink RX5 46 "ClassMill$Machine" "image" "LClassMill$Image;") mw_h3_138) (fun _ h9 => h9) rfl dX5_stepJump_82 ?_
      refine lv_aload_n hx hb dX5_stepJump_85 rfl (lv_at hl 1 rfl) ?_
      refine va_get (D := (dC, dI)) (ci := 5) (v := .int v19) (C := RX5) (T := TX5) (N := 21) hx hb hts uV_h3_X5 hown hK hP 3 rfl rfl 19 (by decide) (hts (.fieldLink RX5 129 "ClassMill$Machine" "code" "I") mw_h3_139) (fun _ h9 => h9) rfl dX5_stepJump_86 ?_
      refine lv_iload_n hx hb dX5_stepJump_89 rfl (lv_at hl 3 rfl) ?_
      refine lv_iadd hx hb dX5_stepJump_90 ?_
      refine lv_iconst (v := 1) hx hb dX5_stepJump_91 (by decide) ?_
      refine lv_iadd hx hb dX5_stepJump_92 ?_
      obtain ⟨u15_0, hu_15, hsp⟩ := ox_bind hsp
      try dsimp only at hsp
      have hPc := hP.sub (ws' := [(qf18, .inr (3, [.ref qf18_0, .int v18_1, .int v18_2, .int v18_3, .ref qf18_4, .ref qf18_5, .ref qf18_6, .int v18_7, .int v18_8, .int v18_9, .int v18_10, .ref qf18_11, .int v18_12, .ref qf18_13])), (qf18_0, .inl (cf18_0, nb, .inl f18_0))]) [0, 1] rfl
      have hDc := hD.sub (ws' := [(qf18, .inr (3, [.ref qf18_0, .int v18_1, .int v18_2, .int v18_3, .ref qf18_4, .ref qf18_5, .ref qf18_6, .int v18_7, .int v18_8, .int v18_9, .int v18_10, .ref qf18_11, .int v18_12, .ref qf18_13])), (qf18_0, .inl (cf18_0, nb, .inl f18_0))]) [0, 1] (by decide) rfl
      have hKc := hK.sub (tys' := [(cf18_0, .byte)]) [0] rfl
      have hFc := va_free (wc := [(qf18, .inr (3, [.ref qf18_0, .int v18_1, .int v18_2, .int v18_3, .ref qf18_4, .ref qf18_5, .ref qf18_6, .int v18_7, .int v18_8, .int v18_9, .int v18_10, .ref qf18_11, .int v18_12, .ref qf18_13])), (qf18_0, .inl (cf18_0, nb, .inl f18_0))]) hD hS hA [0, 1] rfl
      refine va_calli (va_runV (As := [.int ((v19 + a2) + 1)]) (rest := [.ref h0]) ⟨hx, hb, hml, hown, hts⟩ (ti_pairAt l dC dI H.size qf18 (((v19 + a2) + 1)) qf18_0 v18_1 v18_2 v18_3 qf18_4 qf18_5 qf18_6 v18_7 v18_8 v18_9 v18_10 qf18_11 v18_12 qf18_13 cf18_0 nb f18_0 nf u15_0 hu_15) (cwV 1 hts gv_h3_20 rfl rfl rfl (by decide +kernel) ⟨Nat.le_of_ble_eq_true rfl, Nat.le_of_ble_eq_true rfl⟩) ⟨fun a U g mk q => by obtain ⟨q0, q1, qP, qK, qD⟩ := q; exact ⟨q0, q1, qP, va_K.moved (u := U) (U := U.calling g mk a) (Vm.Alike.refl U.vm) qK, qD⟩, va_recv hKc hPc (ci := 3) (q0 := 0) rfl rfl, fun U hU hW => ⟨rfl, by rw [hU], by rw [hU]; exact hPc, va_K.moved hW.alike hKc, hDc.weaken (fun _ _ _ _ => trivial)⟩⟩ rfl rfl hl.1 rfl (lv_room (Nat.le_of_ble_eq_true rfl)) dX5_stepJump_93 ⟨Nat.le_of_ble_eq_true rfl, Nat.le_of_ble_eq_true rfl⟩) hS (fun q _ h => hFc q h) hFc ?_
      clear hS
      intro r_21 u t H1 locs ht hvm hw hB hz1 hk1 hS
      obtain ⟨⟩ := u
      obtain ⟨hP1, hK1, hD1⟩ := hB
      rw [ht] at hP1
      have hK1 := va_K.moved hvm.symm hK1
      try dsimp only at hw
      have hPD := va_join (wr := [(qf13, .inl (cf13, 60, .inl f13)), (h0, .inr (5, [.ref qf0, .int u13_2, .int v2, .int v3, .int v4, .int v5, .int v6, .int v7, .ref qf8, .ref qf9, .ref qf10, .ref qf11, .ref qf12, .ref qf13, .ref qf14, .ref qf15, .ref qf16, .int v17, .ref qf18, .int v19, .int v20])), (qf14, .inl (cf14, 60, .inl g913_1)), (qf16, .inl (cf16, 1800, .inl f16))]) (w1 := [(qf18, .inr (3, [.ref qf18_0, .int v18_1, .int v18_2, .int v18_3, .ref qf18_4, .ref qf18_5, .ref qf18_6, .int v18_7, .int v18_8, .int v18_9, .int v18_10, .ref qf18_11, .int v18_12, .ref qf18_13])), (qf18_0, .inl (cf18_0, nb, .inl f18_0))]) hP hD [0, 1] [2, 3, 4, 5] rfl rfl (by decide) (by decide) hk1 hFc hP1 hD1
      clear hP hD
      obtain ⟨hP, hD⟩ := hPD
      replace hK := (hK.sub (tys' := [(cf13, .int), (cf14, .int), (cf16, .int)]) [1, 2, 3] rfl).app hK1
      clear hPc hDc hKc hFc hP1 hK1 hD1 hz1 hk1 ht hvm
      generalize H1 = H at hP hS ⊢
      replace hP : va_P (dC, dI) vwCl [(qf13, .inl (cf13, 60, .inl f13)), (h0, .inr (5, [.ref qf0, .int u13_2, .int v2, .int v3, .int v4, .int v5, .int v6, .int v7, .ref qf8, .ref qf9, .ref qf10, .ref qf11, .ref qf12, .ref qf13, .ref qf14, .ref qf15, .ref qf16, .int v17, .ref qf18, .int v19, .int v20])), (qf14, .inl (cf14, 60, .inl g913_1)), (qf16, .inl (cf16, 1800, .inl f16)), (qf18, .inr (3, [.ref qf18_0, .int v18_1, .int v18_2, .int v18_3, .ref qf18_4, .ref qf18_5, .ref qf18_6, .int v18_7, .int v18_8, .int v18_9, .int v18_10, .ref qf18_11, .int v18_12, .ref qf18_13])), (qf18_0, .inl (cf18_0, nb, .inl f18_0))] H := hP
      replace hD : va_D A [(qf13, .inl (cf13, 60, .inl f13)), (h0, .inr (5, [.ref qf0, .int u13_2, .int v2, .int v3, .int v4, .int v5, .int v6, .int v7, .ref qf8, .ref qf9, .ref qf10, .ref qf11, .ref qf12, .ref qf13, .ref qf14, .ref qf15, .ref qf16, .int v17, .ref qf18, .int v19, .int v20])), (qf14, .inl (cf14, 60, .inl g913_1)), (qf16, .inl (cf16, 1800, .inl f16)), (qf18, .inr (3, [.ref qf18_0, .int v18_1, .int v18_2, .int v18_3, .ref qf18_4, .ref qf18_5, .ref qf18_6, .int v18_7, .int v18_8, .int v18_9, .int v18_10, .ref qf18_11, .int v18_12, .ref qf18_13])), (qf18_0, .inl (cf18_0, nb, .inl f18_0))] := hD
      replace hK : va_K (dC, dI) vwCl [(cf13, .int), (cf14, .int), (cf16, .int), (cf18_0, .byte)] s := hK
      obtain rfl := hw
      refine lv_i2s hx hb dX5_stepJump_96 rfl ?_
      refine lv_goto (tgt := 101) hx hb dX5_stepJump_97 (by decide) ?_
      obtain ⟨g916_0, hu_16, hsp⟩ := ox_bind hsp
      try dsimp only at hsp
      have hPc := hP.sub (ws' := [(h0, .inr (5, [.ref qf0, .int u13_2, .int v2, .int v3, .int v4, .int v5, .int v6, .int v7, .ref qf8, .ref qf9, .ref qf10, .ref qf11, .ref qf12, .ref qf13, .ref qf14, .ref qf15, .ref qf16, .int v17, .ref qf18, .int v19, .int v20])), (qf13, .inl (cf13, 60, .inl f13))]) [1, 0] rfl
      have hDc := hD.sub (ws' := [(h0, .inr (5, [.ref qf0, .int u13_2, .int v2, .int v3, .int v4, .int v5, .int v6, .int v7, .ref qf8, .ref qf9, .ref qf10, .ref qf11, .ref qf12, .ref qf13, .ref qf14, .ref qf15, .ref qf16, .int v17, .ref qf18, .int v19, .int v20])), (qf13, .inl (cf13, 60, .inl f13))]) [1, 0] (by decide) rfl
      have hKc := hK.sub (tys' := [(cf13, .int)]) [0] rfl
      have hFc := va_free (wc := [(h0, .inr (5, [.ref qf0, .int u13_2, .int v2, .int v3, .int v4, .int v5, .int v6, .int v7, .ref qf8, .ref qf9, .ref qf10, .ref qf11, .ref qf12, .ref qf13, .ref qf14, .ref qf15, .ref qf16, .int v17, .ref qf18, .int v19, .int v20])), (qf13, .inl (cf13, 60, .inl f13))]) hD hS hA [1, 0] rfl
      refine va_callv (va_runV (As := [.int ((u15_0 : Int32).toInt16.toInt32)]) (rest := []) ⟨hx, hb, hml, hown, hts⟩ (t5_goOn l dC dI H.size h0 (((u15_0 : Int32).toInt16.toInt32)) qf0 u13_2 v2 v3 v4 v5 v6 v7 qf8 qf9 qf10 qf11 qf12 qf13 qf14 qf15 qf16 v17 qf18 v19 v20 cf13 f13 nf g916_0 hu_16) (cwV 1 hts gv_h3_16 rfl rfl rfl (by decide +kernel) ⟨Nat.le_of_ble_eq_true rfl, Nat.le_of_ble_eq_true rfl⟩) ⟨fun a U g mk q => by obtain ⟨q0, q1, qP, qK, qD⟩ := q; exact ⟨q0, q1, qP, va_K.moved (u := U) (U := U.calling g mk a) (Vm.Alike.refl U.vm) qK, qD⟩, va_recv hKc hPc (ci := 5) (q0 := 0) rfl rfl, fun U hU hW => ⟨rfl, by rw [hU], by rw [hU]; exact hPc, va_K.moved hW.alike hKc, hDc.weaken (fun _ _ _ _ => trivial)⟩⟩ rfl rfl hl.1 rfl (lv_room (Nat.le_of_ble_eq_true rfl)) dX5_stepJump_101 ⟨Nat.le_of_ble_eq_true rfl, Nat.le_of_ble_eq_true rfl⟩) hS (fun q _ h => hFc q h) hFc ?_
      clear hS
      intro u t H1 locs ht hvm hw hB hz1 hk1 hS
      obtain ⟨⟩ := u
      obtain ⟨hP1, hK1, hD1⟩ := hB
      rw [ht] at hP1
      have hK1 := va_K.moved hvm.symm hK1
      try dsimp only at hw
      have hPD := va_join (wr := [(qf14, .inl (cf14, 60, .inl g913_1)), (qf16, .inl (cf16, 1800, .inl f16)), (qf18, .inr (3, [.ref qf18_0, .int v18_1, .int v18_2, .int v18_3, .ref qf18_4, .ref qf18_5, .ref qf18_6, .int v18_7, .int v18_8, .int v18_9, .int v18_10, .ref qf18_11, .int v18_12, .ref qf18_13])), (qf18_0, .inl (cf18_0, nb, .inl f18_0))]) (w1 := [(h0, .inr (5, [.ref qf0, .int u13_2, .int v2, .int v3, .int v4, .int v5, .int v6, .int v7, .ref qf8, .ref qf9, .ref qf10, .ref qf11, .ref qf12, .ref qf13, .ref qf14, .ref qf15, .ref qf16, .int v17, .ref qf18, .int v19, .int v20])), (qf13, .inl (cf13, 60, .inl g916_0))]) hP hD [1, 0] [2, 3, 4, 5] rfl rfl (by decide) (by decide) hk1 hFc hP1 hD1
      clear hP hD
      obtain ⟨hP, hD⟩ := hPD
      replace hK := (hK.sub (tys' := [(cf14, .int), (cf16, .int), (cf18_0, .byte)]) [1, 2, 3] rfl).app hK1
      clear hPc hDc hKc hFc hP1 hK1 hD1 hz1 hk1 ht hvm
      generalize H1 = H at hP hS ⊢
      replace hP : va_P (dC, dI) vwCl [(qf14, .inl (cf14, 60, .inl g913_1)), (qf16, .inl (cf16, 1800, .inl f16)), (qf18, .inr (3, [.ref qf18_0, .int v18_1, .int v18_2, .int v18_3, .ref qf18_4, .ref qf18_5, .ref qf18_6, .int v18_7, .int v18_8, .int v18_9, .int v18_10, .ref qf18_11, .int v18_12, .ref qf18_13])), (qf18_0, .inl (cf18_0, nb, .inl f18_0)), (h0, .inr (5, [.ref qf0, .int u13_2, .int v2, .int v3, .int v4, .int v5, .int v6, .int v7, .ref qf8, .ref qf9, .ref qf10, .ref qf11, .ref qf12, .ref qf13, .ref qf14, .ref qf15, .ref qf16, .int v17, .ref qf18, .int v19, .int v20])), (qf13, .inl (cf13, 60, .inl g916_0))] H := hP
      replace hD : va_D A [(qf14, .inl (cf14, 60, .inl g913_1)), (qf16, .inl (cf16, 1800, .inl f16)), (qf18, .inr (3, [.ref qf18_0, .int v18_1, .int v18_2, .int v18_3, .ref qf18_4, .ref qf18_5, .ref qf18_6, .int v18_7, .int v18_8, .int v18_9, .int v18_10, .ref qf18_11, .int v18_12, .ref qf18_13])), (qf18_0, .inl (cf18_0, nb, .inl f18_0)), (h0, .inr (5, [.ref qf0, .int u13_2, .int v2, .int v3, .int v4, .int v5, .int v6, .int v7, .ref qf8, .ref qf9, .ref qf10, .ref qf11, .ref qf12, .ref qf13, .ref qf14, .ref qf15, .ref qf16, .int v17, .ref qf18, .int v19, .int v20])), (qf13, .inl (cf13, 60, .inl g916_0))] := hD
      replace hK : va_K (dC, dI) vwCl [(cf14, .int), (cf16, .int), (cf18_0, .byte), (cf13, .int)] s := hK
      have hr0 := Option.some.inj hsp
      clear hsp
      obtain ⟨hq0, hr1⟩ := Prod.mk.inj hr0
      clear hr0
      obtain ⟨hq1, hr2⟩ := Prod.mk.inj hr1
      clear hr1
      subst hq0
      subst hq1
      subst hr2
      have hP9 := hP.sub (ws' := [(h0, .inr (5, [.ref qf0, .int u13_2, .int v2, .int v3, .int v4, .int v5, .int v6, .int v7, .ref qf8, .ref qf9, .ref qf10, .ref qf11, .ref qf12, .ref qf13, .ref qf14, .ref qf15, .ref qf16, .int v17, .ref qf18, .int v19, .int v20])), (qf18, .inr (3, [.ref qf18_0, .int v18_1, .int v18_2, .int v18_3, .ref qf18_4, .ref qf18_5, .ref qf18_6, .int v18_7, .int v18_8, .int v18_9, .int v18_10, .ref qf18_11, .int v18_12, .ref qf18_13])), (qf18_0, .inl (cf18_0, nb, .inl f18_0)), (qf13, .inl (cf13, 60, .inl g916_0)), (qf14, .inl (cf14, 60, .inl g913_1)), (qf16, .inl (cf16, 1800, .inl f16))]) [4, 2, 3, 5, 0, 1] rfl
      have hD9 := hD.sub (ws' := [(h0, .inr (5, [.ref qf0, .int u13_2, .int v2, .int v3, .int v4, .int v5, .int v6, .int v7, .ref qf8, .ref qf9, .ref qf10, .ref qf11, .ref qf12, .ref qf13, .ref qf14, .ref qf15, .ref qf16, .int v17, .ref qf18, .int v19, .int v20])), (qf18, .inr (3, [.ref qf18_0, .int v18_1, .int v18_2, .int v18_3, .ref qf18_4, .ref qf18_5, .ref qf18_6, .int v18_7, .int v18_8, .int v18_9, .int v18_10, .ref qf18_11, .int v18_12, .ref qf18_13])), (qf18_0, .inl (cf18_0, nb, .inl f18_0)), (qf13, .inl (cf13, 60, .inl g916_0)), (qf14, .inl (cf14, 60, .inl g913_1)), (qf16, .inl (cf16, 1800, .inl f16))]) [4, 2, 3, 5, 0, 1] (by decide) rfl
      have hK9 := hK.sub (tys' := [(cf18_0, .byte), (cf13, .int), (cf14, .int), (cf16, .int)]) [2, 3, 0, 1] rfl
      exact W.vret hx hb hr (fun t ht hW => ⟨⟨(), rfl, trivial, by rw [ht]; exact hP9, va_K.moved hW.alike hK9, hD9⟩, hS.F ht⟩) hS.2.2 dX5_stepJump_104
def sp_t11_tellNumber (nf : Nat) (a1 : Int32) (a2 : Int32) (a3 : Int32) (a4 : Int32) : Option (Int32 × Int32 × Int32 × Int32) := (some (a1, a2, a3, a4))
