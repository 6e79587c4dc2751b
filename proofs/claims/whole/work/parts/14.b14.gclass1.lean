set_option maxHeartbeats 4000000 in
set_option maxRecDepth 100000 in
/-- ClassMill$Verifier.push -/
theorem t11_push (l : Launch) (dC : Nat → ClassId) (dI : Nat → Nat → Nat) (sz : Nat) (h0 : Nat) (a1 : Int32) (qf0 : Nat) (qf1 : Nat) (v2 : Int32) (v3 : Int32) (v4 : Int32) (qf5 : Nat) (v6 : Int32) (v7 : Int32) (qf8 : Nat) (qf9 : Nat) (qf10 : Nat) (qf11 : Nat) (qf12 : Nat) (qf13 : Nat) (qf14 : Nat) (qf15 : Nat) (v16 : Int32) (v17 : Int32) (v18 : Int32) (v19 : Int32) (v20 : Int32) (cf15 : ClassId) (f15 : (Nat → Int32)) (nf : Nat) (o15 : (Nat → Int32)) (w18 : Int32) (w19 : Int32) (hsp : sp_t11_push nf a1 v17 v18 v19 f15 = some (o15, w18, w19)) : Met l yX11_push (.code yX11_push cX11_push 2 none :: VS_h3) ({ frames := 0, cells := 0, slots := 0, locals := 0 }) (va_Pc [.ref h0, .int a1] (fun U => U.heap.size = sz ∧ va_P (dC, dI) vwCl [(h0, .inr (11, [.ref qf0, .ref qf1, .int v2, .int v3, .int v4, .ref qf5, .int v6, .int v7, .ref qf8, .ref qf9, .ref qf10, .ref qf11, .ref qf12, .ref qf13, .ref qf14, .ref qf15, .int v16, .int v17, .int v18, .int v19, .int v20])), (qf15, .inl (cf15, 30, .inl f15))] U.heap ∧ va_K (dC, dI) vwCl [(cf15, .int)] U ∧ va_D (fun _ => True) [(h0, .inr (11, [.ref qf0, .ref qf1, .int v2, .int v3, .int v4, .ref qf5, .int v6, .int v7, .ref qf8, .ref qf9, .ref qf10, .ref qf11, .ref qf12, .ref qf13, .ref qf14, .ref qf15, .int v16, .int v17, .int v18, .int v19, .int v20])), (qf15, .inl (cf15, 30, .inl f15))])) (va_Qv (fun (u : Unit) => match u with | () => True) (fun (u : Unit) (t : State) => match u with | () => va_P (dC, dI) vwCl [(h0, .inr (11, [.ref qf0, .ref qf1, .int v2, .int v3, .int v4, .ref qf5, .int v6, .int v7, .ref qf8, .ref qf9, .ref qf10, .ref qf11, .ref qf12, .ref qf13, .ref qf14, .ref qf15, .int v16, .int v17, .int w18, .int w19, .int v20])), (qf15, .inl (cf15, 30, .inl o15))] t.heap ∧ va_K (dC, dI) vwCl [(cf15, .int)] t ∧ va_D (va_A [(h0, .inr (11, [.ref qf0, .ref qf1, .int v2, .int v3, .int v4, .ref qf5, .int v6, .int v7, .ref qf8, .ref qf9, .ref qf10, .ref qf11, .ref qf12, .ref qf13, .ref qf14, .ref qf15, .int v16, .int v17, .int v18, .int v19, .int v20])), (qf15, .inl (cf15, 30, .inl f15))] sz) [(h0, .inr (11, [.ref qf0, .ref qf1, .int v2, .int v3, .int v4, .ref qf5, .int v6, .int v7, .ref qf8, .ref qf9, .ref qf10, .ref qf11, .ref qf12, .ref qf13, .ref qf14, .ref qf15, .int v16, .int v17, .int w18, .int w19, .int v20])), (qf15, .inl (cf15, 30, .inl o15))]) (va_A [(h0, .inr (11, [.ref qf0, .ref qf1, .int v2, .int v3, .int v4, .ref qf5, .int v6, .int v7, .ref qf8, .ref qf9, .ref qf10, .ref qf11, .ref qf12, .ref qf13, .ref qf14, .ref qf15, .int v16, .int v17, .int v18, .int v19, .int v20])), (qf15, .inl (cf15, 30, .inl f15))] sz)) 0 0 (va_A [(h0, .inr (11, [.ref qf0, .ref qf1, .int v2, .int v3, .int v4, .ref qf5, .int v6, .int v7, .ref qf8, .ref qf9, .ref qf10, .ref qf11, .ref qf12, .ref qf13, .ref qf14, .ref qf15, .int v16, .int v17, .int v18, .int v19, .int v20])), (qf15, .inl (cf15, 30, .inl f15))] sz) := by
  refine Met.ofW (cc := cX11_push) (maxL := 2) (ret := none) (by decide) rfl ?_
  intro p e s m args below meth c s₁ B hml hv
  obtain ⟨rfl, hsz, hP, hK, hD0⟩ := hv
  have hx := B.exec
  have hb := B.bytes
  have hr := B.returns
  have hts := atoms_spec (ws := (.code yX11_push cX11_push 2 none :: VS_h3)) B.pre
  replace hts := fun w (h : w ∈ VS_h3) => hts w (List.mem_cons_of_mem _ h)
  have hown : s.vm.findClass RX11 = some m.cls := findClass_of_methodNamed B.named
  have hlocks := B.notSynchronized
  subst hsz
  have hD := hD0.self (sz := s.heap.size)
  generalize hAe : va_A [(h0, .inr (11, [.ref qf0, .ref qf1, .int v2, .int v3, .int v4, .ref qf5, .int v6, .int v7, .ref qf8, .ref qf9, .ref qf10, .ref qf11, .ref qf12, .ref qf13, .ref qf14, .ref qf15, .int v16, .int v17, .int v18, .int v19, .int v20])), (qf15, .inl (cf15, 30, .inl f15))] s.heap.size = A at hD  ⊢
  have hA : ∀ q : Nat, s.heap.size ≤ q → A q := fun q h => by rw [← hAe]; exact Or.inr h
  have hP : va_P (dC, dI) vwCl [(h0, .inr (11, [.ref qf0, .ref qf1, .int v2, .int v3, .int v4, .ref qf5, .int v6, .int v7, .ref qf8, .ref qf9, .ref qf10, .ref qf11, .ref qf12, .ref qf13, .ref qf14, .ref qf15, .int v16, .int v17, .int v18, .int v19, .int v20])), (qf15, .inl (cf15, 30, .inl f15))] s.heap := hP
  have hl := lv_entry ([.ref h0, .int a1]) (n := 2) (Nat.le_of_ble_eq_true rfl)
  rw [lg_entry_eq]
  generalize (lg_sl ([.ref h0, .int a1]) ++ List.replicate (2 - (lg_sl ([.ref h0, .int a1])).length) Slot.unset).toArray = ls at hl ⊢
  have hl : lv_has ls 2 [(0, .ref h0), (1, .int a1)] := hl
  obtain ⟨H, hH⟩ : ∃ H : Heap, s.heap = H := ⟨_, rfl⟩
  rw [hH] at hP ⊢
  have hS : va_S A s.heap H [] := by rw [← hH]; exact va_S.rf
  obtain ⟨locs, hlo⟩ : ∃ locs : List Loc, locs = [] := ⟨_, rfl⟩
  rw [← hlo] at hS ⊢
  unfold sp_t11_push at hsp
  refine lv_aload_n hx hb dX11_push_0 rfl (lv_at hl 0 rfl) ?_
  refine va_get (D := (dC, dI)) (ci := 11) (v := .int v18) (C := RX11) (T := TX11) (N := 21) hx hb hts uV_h3_X11 hown hK hP 0 rfl rfl 18 (by decide) (hts (.fieldLink RX11 255 "ClassMill$Verifier" "height" "I") mw_h3_218) (fun _ h9 => h9) rfl dX11_push_1 ?_
  refine lv_aload_n hx hb dX11_push_4 rfl (lv_at hl 0 rfl) ?_
  refine va_get (D := (dC, dI)) (ci := 11) (v := .int v17) (C := RX11) (T := TX11) (N := 21) hx hb hts uV_h3_X11 hown hK hP 0 rfl rfl 17 (by decide) (hts (.fieldLink RX11 261 "ClassMill$Verifier" "mostHeight" "I") mw_h3_231) (fun _ h9 => h9) rfl dX11_push_5 ?_
  refine lv_icmp_lt (tgt := 17) hx hb dX11_push_8 (by decide) (fun c_1 => ?_) (fun c_1 => ?_)
  · rw [if_pos c_1] at hsp
    refine lv_aload_n hx hb dX11_push_17 rfl (lv_at hl 0 rfl) ?_
    refine va_get (D := (dC, dI)) (ci := 11) (v := .ref qf15) (C := RX11) (T := TX11) (N := 21) hx hb hts uV_h3_X11 hown hK hP 0 rfl rfl 15 (by decide) (hts (.fieldLink RX11 47 "ClassMill$Verifier" "stack" "[I") mw_h3_219) (fun _ h9 => h9) rfl dX11_push_18 ?_
    refine lv_aload_n hx hb dX11_push_21 rfl (lv_at hl 0 rfl) ?_
    refine va_get (D := (dC, dI)) (ci := 11) (v := .int v18) (C := RX11) (T := TX11) (N := 21) hx hb hts uV_h3_X11 hown hK hP 0 rfl rfl 18 (by decide) (hts (.fieldLink RX11 255 "ClassMill$Verifier" "height" "I") mw_h3_218) (fun _ h9 => h9) rfl dX11_push_22 ?_
    refine lv_iload_n hx hb dX11_push_25 rfl (lv_at hl 1 rfl) ?_
    obtain ⟨hi_2, hsp⟩ := ox_in hsp
    refine va_iast hx hb hK hP hD hS 1 0 rfl rfl (i := v18) (x := a1) hi_2 dX11_push_26 ?_
    clear hP hD hS
    intro H locs hP hD hS
    replace hP : va_P (dC, dI) vwCl [(h0, .inr (11, [.ref qf0, .ref qf1, .int v2, .int v3, .int v4, .ref qf5, .int v6, .int v7, .ref qf8, .ref qf9, .ref qf10, .ref qf11, .ref qf12, .ref qf13, .ref qf14, .ref qf15, .int v16, .int v17, .int v18, .int v19, .int v20])), (qf15, .inl (cf15, 30, .inl (upd f15 (v18 : Int32).toNatClampNeg a1)))] H := hP
    replace hD : va_D A [(h0, .inr (11, [.ref qf0, .ref qf1, .int v2, .int v3, .int v4, .ref qf5, .int v6, .int v7, .ref qf8, .ref qf9, .ref qf10, .ref qf11, .ref qf12, .ref qf13, .ref qf14, .ref qf15, .int v16, .int v17, .int v18, .int v19, .int v20])), (qf15, .inl (cf15, 30, .inl (upd f15 (v18 : Int32).toNatClampNeg a1)))] := hD
    refine lv_aload_n hx hb dX11_push_27 rfl (lv_at hl 0 rfl) ?_
    refine lv_dup hx hb dX11_push_28 rfl ?_
    refine va_get (D := (dC, dI)) (ci := 11) (v := .int v18) (C := RX11) (T := TX11) (N := 21) hx hb hts uV_h3_X11 hown hK hP 0 rfl rfl 18 (by decide) (hts (.fieldLink RX11 255 "ClassMill$Verifier" "height" "I") mw_h3_218) (fun _ h9 => h9) rfl dX11_push_29 ?_
    refine lv_iconst (v := 1) hx hb dX11_push_32 (by decide) ?_
    refine lv_iadd hx hb dX11_push_33 ?_
    refine va_put (D := (dC, dI)) (ci := 11) (v := .int (v18 + 1)) (ty := .int) (C := RX11) (T := TX11) (N := 21) hx hb hts uV_h3_X11 tyX11 tyX11_ok nmX11 hown hK hP hD hS 0 rfl rfl 18 (by decide) (hts (.fieldLink RX11 255 "ClassMill$Verifier" "height" "I") mw_h3_218) (fun _ h9 => h9) rfl (by decide +kernel) rfl rfl (Nat.le_of_ble_eq_true rfl) dX11_push_34 ?_
    clear hP hD hS
    intro H locs hP hD hS
    replace hP : va_P (dC, dI) vwCl [(h0, .inr (11, [.ref qf0, .ref qf1, .int v2, .int v3, .int v4, .ref qf5, .int v6, .int v7, .ref qf8, .ref qf9, .ref qf10, .ref qf11, .ref qf12, .ref qf13, .ref qf14, .ref qf15, .int v16, .int v17, .int (v18 + 1), .int v19, .int v20])), (qf15, .inl (cf15, 30, .inl (upd f15 (v18 : Int32).toNatClampNeg a1)))] H := hP
    replace hD : va_D A [(h0, .inr (11, [.ref qf0, .ref qf1, .int v2, .int v3, .int v4, .ref qf5, .int v6, .int v7, .ref qf8, .ref qf9, .ref qf10, .ref qf11, .ref qf12, .ref qf13, .ref qf14, .ref qf15, .int v16, .int v17, .int (v18 + 1), .int v19, .int v20])), (qf15, .inl (cf15, 30, .inl (upd f15 (v18 : Int32).toNatClampNeg a1)))] := hD
    have hr0 := Option.some.inj hsp
    clear hsp
    obtain ⟨hq0, hr1⟩ := Prod.mk.inj hr0
    clear hr0
    obtain ⟨hq1, hr2⟩ := Prod.mk.inj hr1
    clear hr1
    subst hq0
    subst hq1
    subst hr2
    have hP9 := hP.sub (ws' := [(h0, .inr (11, [.ref qf0, .ref qf1, .int v2, .int v3, .int v4, .ref qf5, .int v6, .int v7, .ref qf8, .ref qf9, .ref qf10, .ref qf11, .ref qf12, .ref qf13, .ref qf14, .ref qf15, .int v16, .int v17, .int (v18 + 1), .int v19, .int v20])), (qf15, .inl (cf15, 30, .inl (upd f15 (v18 : Int32).toNatClampNeg a1)))]) [0, 1] rfl
    have hD9 := hD.sub (ws' := [(h0, .inr (11, [.ref qf0, .ref qf1, .int v2, .int v3, .int v4, .ref qf5, .int v6, .int v7, .ref qf8, .ref qf9, .ref qf10, .ref qf11, .ref qf12, .ref qf13, .ref qf14, .ref qf15, .int v16, .int v17, .int (v18 + 1), .int v19, .int v20])), (qf15, .inl (cf15, 30, .inl (upd f15 (v18 : Int32).toNatClampNeg a1)))]) [0, 1] (by decide) rfl
    have hK9 := hK.sub (tys' := [(cf15, .int)]) [0] rfl
    exact W.vret hx hb hr (fun t ht hW => ⟨⟨(), rfl, trivial, by rw [ht]; exact hP9, va_K.moved hW.alike hK9, hD9⟩, hS.F ht⟩) hS.2.2 dX11_push_37
  · rw [if_neg c_1] at hsp
    refine lv_aload_n hx hb dX11_push_11 rfl (lv_at hl 0 rfl) ?_
    refine lv_iconst (v := 0) hx hb dX11_push_12 (by decide) ?_
    refine va_put (D := (dC, dI)) (ci := 11) (v := .int 0) (ty := .boolean) (C := RX11) (T := TX11) (N := 21) hx hb hts uV_h3_X11 tyX11 tyX11_ok nmX11 hown hK hP hD hS 0 rfl rfl 19 (by decide) (hts (.fieldLink RX11 295 "ClassMill$Verifier" "fitting" "Z") mw_h3_220) (fun _ h9 => h9) rfl (by decide +kernel) rfl rfl (Nat.le_of_ble_eq_true rfl) dX11_push_13 ?_
    clear hP hD hS
    intro H locs hP hD hS
    replace hP : va_P (dC, dI) vwCl [(h0, .inr (11, [.ref qf0, .ref qf1, .int v2, .int v3, .int v4, .ref qf5, .int v6, .int v7, .ref qf8, .ref qf9, .ref qf10, .ref qf11, .ref qf12, .ref qf13, .ref qf14, .ref qf15, .int v16, .int v17, .int v18, .int 0, .int v20])), (qf15, .inl (cf15, 30, .inl f15))] H := hP
    replace hD : va_D A [(h0, .inr (11, [.ref qf0, .ref qf1, .int v2, .int v3, .int v4, .ref qf5, .int v6, .int v7, .ref qf8, .ref qf9, .ref qf10, .ref qf11, .ref qf12, .ref qf13, .ref qf14, .ref qf15, .int v16, .int v17, .int v18, .int 0, .int v20])), (qf15, .inl (cf15, 30, .inl f15))] := hD
    have hr0 := Option.some.inj hsp
    clear hsp
    obtain ⟨hq0, hr1⟩ := Prod.mk.inj hr0
    clear hr0
    obtain ⟨hq1, hr2⟩ := Prod.mk.inj hr1
    clear hr1
    subst hq0
    subst hq1
    subst hr2
    have hP9 := hP.sub (ws' := [(h0, .inr (11, [.ref qf0, .ref qf1, .int v2, .int v3, .int v4, .ref qf5, .int v6, .int v7, .ref qf8, .ref qf9, .ref qf10, .ref qf11, .ref qf12, .ref qf13, .ref qf14, .ref qf15, .int v16, .int v17, .int v18, .int 0, .int v20])), (qf15, .inl (cf15, 30, .inl f15))]) [0, 1] rfl
    have hD9 := hD.sub (ws' := [(h0, .inr (11, [.ref qf0, .ref qf1, .int v2, .int v3, .int v4, .ref qf5, .int v6, .int v7, .ref qf8, .ref qf9, .ref qf10, .ref qf11, .ref qf12, .ref qf13, .ref qf14, .ref qf15, .int v16, .int v17, .int v18, .int 0, .int v20])), (qf15, .inl (cf15, 30, .inl f15))]) [0, 1] (by decide) rfl
    have hK9 := hK.sub (tys' := [(cf15, .int)]) [0] rfl
    exact W.vret hx hb hr (fun t ht hW => ⟨⟨(), rfl, trivial, by rw [ht]; exact hP9, va_K.moved hW.alike hK9, hD9⟩, hS.F ht⟩) hS.2.2 dX11_push_16
def sp_t11_applyLocal (nf : Nat) (a1 : Int32) (a2 : Int32) (v6 : Int32) (v17 : Int32) (v18 : Int32) (v19 : Int32) (v5_12 : Int32) (f5_13 : Nat → Int32) (f14 : Nat → Int32) (f15 : Nat → Int32) (f1_1 : Nat → Int32) : Option ((Nat → Int32) × (Nat → Int32) × Int32 × Int32) := ((sp_t11_info nf 4 v6 v5_12 f5_13).bind (fun p1 => (if p1 ≤ a2 then (some (f14, f15, v18, 0)) else (if a2 < 30 then (if a1 = 21 then (if a1 = 21 then (if a2 < 0 then none else if 30 ≤ (a2 : Int32).toNatClampNeg then none else (if (f14 (a2 : Int32).toNatClampNeg) = 301 then (if v19 = 0 then (if a2 < 0 then none else if 30 ≤ (a2 : Int32).toNatClampNeg then none else ((sp_t11_push nf (f14 (a2 : Int32).toNatClampNeg) v17 v18 0 f15).bind (fun p9 => (some (f14, p9.1, p9.2.1, p9.2.2))))) else (if a2 < 0 then none else if 30 ≤ (a2 : Int32).toNatClampNeg then none else ((sp_t11_push nf (f14 (a2 : Int32).toNatClampNeg) v17 v18 1 f15).bind (fun p10 => (some (f14, p10.1, p10.2.1, p10.2.2)))))) else (if v19 = 0 then (if a2 < 0 then none else if 30 ≤ (a2 : Int32).toNatClampNeg then none else ((sp_t11_push nf (f14 (a2 : Int32).toNatClampNeg) v17 v18 0 f15).bind (fun p7 => (some (f14, p7.1, p7.2.1, p7.2.2))))) else (if a2 < 0 then none else if 30 ≤ (a2 : Int32).toNatClampNeg then none else ((sp_t11_push nf (f14 (a2 : Int32).toNatClampNeg) v17 v18 0 f15).bind (fun p8 => (some (f14, p8.1, p8.2.1, p8.2.2)))))))) else (if a2 < 0 then none else if 30 ≤ (a2 : Int32).toNatClampNeg then none else ((sp_t4_isReference nf (f14 (a2 : Int32).toNatClampNeg)).bind (fun p2 => (if p2 = 0 then (if v19 = 0 then (if a2 < 0 then none else if 30 ≤ (a2 : Int32).toNatClampNeg then none else ((sp_t11_push nf (f14 (a2 : Int32).toNatClampNeg) v17 v18 0 f15).bind (fun p3 => (some (f14, p3.1, p3.2.1, p3.2.2))))) else (if a2 < 0 then none else if 30 ≤ (a2 : Int32).toNatClampNeg then none else ((sp_t11_push nf (f14 (a2 : Int32).toNatClampNeg) v17 v18 0 f15).bind (fun p4 => (some (f14, p4.1, p4.2.1, p4.2.2)))))) else (if v19 = 0 then (if a2 < 0 then none else if 30 ≤ (a2 : Int32).toNatClampNeg then none else ((sp_t11_push nf (f14 (a2 : Int32).toNatClampNeg) v17 v18 0 f15).bind (fun p5 => (some (f14, p5.1, p5.2.1, p5.2.2))))) else (if a2 < 0 then none else if 30 ≤ (a2 : Int32).toNatClampNeg then none else ((sp_t11_push nf (f14 (a2 : Int32).toNatClampNeg) v17 v18 1 f15).bind (fun p6 => (some (f14, p6.1, p6.2.1, p6.2.2))))))))))) else (if a1 = 25 then (if a1 = 21 then (if a2 < 0 then none else if 30 ≤ (a2 : Int32).toNatClampNeg then none else (if (f14 (a2 : Int32).toNatClampNeg) = 301 then (if v19 = 0 then (if a2 < 0 then none else if 30 ≤ (a2 : Int32).toNatClampNeg then none else ((sp_t11_push nf (f14 (a2 : Int32).toNatClampNeg) v17 v18 0 f15).bind (fun p20 => (some (f14, p20.1, p20.2.1, p20.2.2))))) else (if a2 < 0 then none else if 30 ≤ (a2 : Int32).toNatClampNeg then none else ((sp_t11_push nf (f14 (a2 : Int32).toNatClampNeg) v17 v18 1 f15).bind (fun p21 => (some (f14, p21.1, p21.2.1, p21.2.2)))))) else (if v19 = 0 then (if a2 < 0 then none else if 30 ≤ (a2 : Int32).toNatClampNeg then none else ((sp_t11_push nf (f14 (a2 : Int32).toNatClampNeg) v17 v18 0 f15).bind (fun p18 => (some (f14, p18.1, p18.2.1, p18.2.2))))) else (if a2 < 0 then none else if 30 ≤ (a2 : Int32).toNatClampNeg then none else ((sp_t11_push nf (f14 (a2 : Int32).toNatClampNeg) v17 v18 0 f15).bind (fun p19 => (some (f14, p19.1, p19.2.1, p19.2.2)))))))) else (if a2 < 0 then none else if 30 ≤ (a2 : Int32).toNatClampNeg then none else ((sp_t4_isReference nf (f14 (a2 : Int32).toNatClampNeg)).bind (fun p13 => (if p13 = 0 then (if v19 = 0 then (if a2 < 0 then none else if 30 ≤ (a2 : Int32).toNatClampNeg then none else ((sp_t11_push nf (f14 (a2 : Int32).toNatClampNeg) v17 v18 0 f15).bind (fun p14 => (some (f14, p14.1, p14.2.1, p14.2.2))))) else (if a2 < 0 then none else if 30 ≤ (a2 : Int32).toNatClampNeg then none else ((sp_t11_push nf (f14 (a2 : Int32).toNatClampNeg) v17 v18 0 f15).bind (fun p15 => (some (f14, p15.1, p15.2.1, p15.2.2)))))) else (if v19 = 0 then (if a2 < 0 then none else if 30 ≤ (a2 : Int32).toNatClampNeg then none else ((sp_t11_push nf (f14 (a2 : Int32).toNatClampNeg) v17 v18 0 f15).bind (fun p16 => (some (f14, p16.1, p16.2.1, p16.2.2))))) else (if a2 < 0 then none else if 30 ≤ (a2 : Int32).toNatClampNeg then none else ((sp_t11_push nf (f14 (a2 : Int32).toNatClampNeg) v17 v18 1 f15).bind (fun p17 => (some (f14, p17.1, p17.2.1, p17.2.2))))))))))) else (if a1 = 54 then ((sp_t11_want nf 301 v18 v19 f15 f1_1).bind (fun p12 => (if a2 < 0 then none else if 30 ≤ (a2 : Int32).toNatClampNeg then none else (some ((upd f14 (a2 : Int32).toNatClampNeg 301), f15, p12.1, p12.2))))) else ((sp_t11_wantReference nf v18 v19 f15).bind (fun p11 => (if a2 < 0 then none else if 30 ≤ (a2 : Int32).toNatClampNeg then none else (some ((upd f14 (a2 : Int32).toNatClampNeg p11.1), f15, p11.2.1, p11.2.2)))))))) else (some (f14, f15, v18, 0))))))
set_option maxHeartbeats 4000000 in
set_option maxRecDepth 100000 in
/-- ClassMill$Verifier.applyLocal -/
theorem t11_applyLocal (l : Launch) (dC : Nat → ClassId) (dI : Nat → Nat → Nat) (sz : Nat) (h0 : Nat) (a1 : Int32) (a2 : Int32) (qf0 : Nat) (qf1 : Nat) (v2 : Int32) (v3 : Int32) (v4 : Int32) (qf5 : Nat) (v6 : Int32) (v7 : Int32) (qf8 : Nat) (qf9 : Nat) (qf10 : Nat) (qf11 : Nat) (qf12 : Nat) (qf13 : Nat) (qf14 : Nat) (qf15 : Nat) (v16 : Int32) (v17 : Int32) (v18 : Int32) (v19 : Int32) (v20 : Int32) (qf5_0 : Nat) (v5_1 : Int32) (v5_2 : Int32) (v5_3 : Int32) (qf5_4 : Nat) (qf5_5 : Nat) (qf5_6 : Nat) (v5_7 : Int32) (v5_8 : Int32) (v5_9 : Int32) (v5_10 : Int32) (qf5_11 : Nat) (v5_12 : Int32) (qf5_13 : Nat) (cf5_13 : ClassId) (f5_13 : (Nat → Int32)) (cf14 : ClassId) (f14 : (Nat → Int32)) (cf15 : ClassId) (f15 : (Nat → Int32)) (qf1_0 : Nat) (qf1_1 : Nat) (cf1_1 : ClassId) (f1_1 : (Nat → Int32)) (nf : Nat) (o14 : (Nat → Int32)) (o15 : (Nat → Int32)) (w18 : Int32) (w19 : Int32) (hsp : sp_t11_applyLocal nf a1 a2 v6 v17 v18 v19 v5_12 f5_13 f14 f15 f1_1 = some (o14, o15, w18, w19)) : Met l yX11_applyLocal (.code yX11_applyLocal cX11_applyLocal 4 none :: VS_h3) ({ frames := 2, cells := 0, slots := 0, locals := 45 }) (va_Pc [.ref h0, .int a1, .int a2] (fun U => U.heap.size = sz ∧ va_P (dC, dI) vwCl [(h0, .inr (11, [.ref qf0, .ref qf1, .int v2, .int v3, .int v4, .ref qf5, .int v6, .int v7, .ref qf8, .ref qf9, .ref qf10, .ref qf11, .ref qf12, .ref qf13, .ref qf14, .ref qf15, .int v16, .int v17, .int v18, .int v19, .int v20])), (qf5, .inr (3, [.ref qf5_0, .int v5_1, .int v5_2, .int v5_3, .ref qf5_4, .ref qf5_5, .ref qf5_6, .int v5_7, .int v5_8, .int v5_9, .int v5_10, .ref qf5_11, .int v5_12, .ref qf5_13])), (qf5_13, .inl (cf5_13, 144, .inl f5_13)), (qf14, .inl (cf14, 30, .inl f14)), (qf15, .inl (cf15, 30, .inl f15)), (qf1, .inr (4, [.ref qf1_0, .ref qf1_1])), (qf1_1, .inl (cf1_1, 256, .inl f1_1))] U.heap ∧ va_K (dC, dI) vwCl [(cf5_13, .int), (cf14, .int), (cf15, .int), (cf1_1, .boolean)] U ∧ va_D (fun _ => True) [(h0, .inr (11, [.ref qf0, .ref qf1, .int v2, .int v3, .int v4, .ref qf5, .int v6, .int v7, .ref qf8, .ref qf9, .ref qf10, .ref qf11, .ref qf12, .ref qf13, .ref qf14, .ref qf15, .int v16, .int v17, .int v18, .int v19, .int v20])), (qf5, .inr (3, [.ref qf5_0, .int v5_1, .int v5_2, .int v5_3, .ref qf5_4, .ref qf5_5, .ref qf5_6, .int v5_7, .int v5_8, .int v5_9, .int v5_10, .ref qf5_11, .int v5_12, .ref qf5_13])), (qf5_13, .inl (cf5_13, 144, .inl f5_13)), (qf14, .inl (cf14, 30, .inl f14)), (qf15, .inl (cf15, 30, .inl f15)), (qf1, .inr (4, [.ref qf1_0, .ref qf1_1])), (qf1_1, .inl (cf1_1, 256, .inl f1_1))])) (va_Qv (fun (u : Unit) => match u with | () => True) (fun (u : Unit) (t : State) => match u with | () => va_P (dC, dI) vwCl [(h0, .inr (11, [.ref qf0, .ref qf1, .int v2, .int v3, .int v4, .ref qf5, .int v6, .int v7, .ref qf8, .ref qf9, .ref qf10, .ref qf11, .ref qf12, .ref qf13, .ref qf14, .ref qf15, .int v16, .int v17, .int w18, .int w19, .int v20])), (qf5, .inr (3, [.ref qf5_0, .int v5_1, .int v5_2, .int v5_3, .ref qf5_4, .ref qf5_5, .ref qf5_6, .int v5_7, .int v5_8, .int v5_9, .int v5_10, .ref qf5_11, .int v5_12, .ref qf5_13])), (qf5_13, .inl (cf5_13, 144, .inl f5_13)), (qf14, .inl (cf14, 30, .inl o14)), (qf15, .inl (cf15, 30, .inl o15)), (qf1, .inr (4, [.ref qf1_0, .ref qf1_1])), (qf1_1, .inl (cf1_1, 256, .inl f1_1))] t.heap ∧ va_K (dC, dI) vwCl [(cf5_13, .int), (cf14, .int), (cf15, .int), (cf1_1, .boolean)] t ∧ va_D (va_A [(h0, .inr (11, [.ref qf0, .ref qf1, .int v2, .int v3, .int v4, .ref qf5, .int v6, .int v7, .ref qf8, .ref qf9, .ref qf10, .ref qf11, .ref qf12, .ref qf13, .ref qf14, .ref qf15, .int v16, .int v17, .int v18, .int v19, .int v20])), (qf5, .inr (3, [.ref qf5_0, .int v5_1, .int v5_2, .int v5_3, .ref qf5_4, .ref qf5_5, .ref qf5_6, .int v5_7, .int v5_8, .int v5_9, .int v5_10, .ref qf5_11, .int v5_12, .ref qf5_13])), (qf5_13, .inl (cf5_13, 144, .inl f5_13)), (qf14, .inl (cf14, 30, .inl f14)), (qf15, .inl (cf15, 30, .inl f15)), (qf1, .inr (4, [.ref qf1_0, .ref qf1_1])), (qf1_1, .inl (cf1_1, 256, .inl f1_1))] sz) [(h0, .inr (11, [.ref qf0, .ref qf1, .int v2, .int v3, .int v4, .ref qf5, .int v6, .int v7, .ref qf8, .ref qf9, .ref qf10, .ref qf11, .ref qf12, .ref qf13, .ref qf14, .ref qf15, .int v16, .int v17, .int w18, .int w19, .int v20])), (qf5, .inr (3, [.ref qf5_0, .int v5_1, .int v5_2, .int v5_3, .ref qf5_4, .ref qf5_5, .ref qf5_6, .int v5_7, .int v5_8, .int v5_9, .int v5_10, .ref qf5_11, .int v5_12, .ref qf5_13])), (qf5_13, .inl (cf5_13, 144, .inl f5_13)), (qf14, .inl (cf14, 30, .inl o14)), (qf15, .inl (cf15, 30, .inl o15)), (qf1, .inr (4, [.ref qf1_0, .ref qf1_1])), (qf1_1, .inl (cf1_1, 256, .inl f1_1))]) (va_A [(h0, .inr (11, [.ref qf0, .ref qf1, .int v2, .int v3, .int v4, .ref qf5, .int v6, .int v7, .ref qf8, .ref qf9, .ref qf10, .ref qf11, .ref qf12, .ref qf13, .ref qf14, .ref qf15, .int v16, .int v17, .int v18, .int v19, .int v20])), (qf5, .inr (3, [.ref qf5_0, .int v5_1, .int v5_2, .int v5_3, .ref qf5_4, .ref qf5_5, .ref qf5_6, .int v5_7, .int v5_8, .int v5_9, .int v5_10, .ref qf5_11, .int v5_12, .ref qf5_13])), (qf5_13, .inl (cf5_13, 144, .inl f5_13)), (qf14, .inl (cf14, 30, .inl f14)), (qf15, .inl (cf15, 30, .inl f15)), (qf1, .inr (4, [.ref qf1_0, .ref qf1_1])), (qf1_1, .inl (cf1_1, 256, .inl f1_1))] sz)) 0 0 (va_A [(h0, .inr (11, [.ref qf0, .ref qf1, .int v2, .int v3, .int v4, .ref qf5, .int v6, .int v7, .ref qf8, .ref qf9, .ref qf10, .ref qf11, .ref qf12, .ref qf13, .ref qf14, .ref qf15, .int v16, .int v17, .int v18, .int v19, .int v20])), (qf5, .inr (3, [.ref qf5_0, .int v5_1, .int v5_2, .int v5_3, .ref qf5_4, .ref qf5_5, .ref qf5_6, .int v5_7, .int v5_8, .int v5_9, .int v5_10, .ref qf5_11, .int v5_12, .ref qf5_13])), (qf5_13, .inl (cf5_13, 144, .inl f5_13)), (qf14, .inl (cf14, 30, .inl f14)), (qf15, .inl (cf15, 30, .inl f15)), (qf1, .inr (4, [.ref qf1_0, .ref qf1_1])), (qf1_1, .inl (cf1_1, 256, .inl f1_1))] sz) := by
  refine Met.ofW (cc := cX11_applyLocal) (maxL := 4) (ret := none) (by decide) rfl ?_
  intro p e s m args below meth c s₁ B hml hv
  obtain ⟨rfl, hsz, hP, hK, hD0⟩ := hv
  have hx := B.exec
  have hb := B.bytes
  have hr := B.returns
  have hts := atoms_spec (ws := (.code yX11_applyLocal cX11_applyLocal 4 none :: VS_h3)) B.pre
  replace hts := fun w (h : w ∈ VS_h3) => hts w (List.mem_cons_of_mem _ h)
  have hown : s.vm.findClass RX11 = some m.cls := findClass_of_methodNamed B.named
  have hlocks := B.notSynchronized
  subst hsz
  have hD := hD0.self (sz := s.heap.size)
  generalize hAe : va_A [(h0, .inr (11, [.ref qf0, .ref qf1, .int v2, .int v3, .int v4, .ref qf5, .int v6, .int v7, .ref qf8, .ref qf9, .ref qf10, .ref qf11, .ref qf12, .ref qf13, .ref qf14, .ref qf15, .int v16, .int v17, .int v18, .int v19, .int v20])), (qf5, .inr (3, [.ref qf5_0, .int v5_1, .int v5_2, .int v5_3, .ref qf5_4, .ref qf5_5, .ref qf5_6, .int v5_7, .int v5_8, .int v5_9, .int v5_10, .ref qf5_11, .int v5_12, .ref qf5_13])), (qf5_13, .inl (cf5_13, 144, .inl f5_13)), (qf14, .inl (cf14, 30, .inl f14)), (qf15, .inl (cf15, 30, .inl f15)), (qf1, .inr (4, [.ref qf1_0, .ref qf1_1])), (qf1_1, .inl (cf1_1, 256, .inl f1_1))] s.heap.size = A at hD  ⊢
  have hA : ∀ q : Nat, s.heap.size ≤ q → A q := fun q h => by rw [← hAe]; exact Or.inr h
  have hP : va_P (dC, dI) vwCl [(h0, .inr (11, [.ref qf0, .ref qf1, .int v2, .int v3, .int v4, .ref qf5, .int v6, .int v7, .ref qf8, .ref qf9, .ref qf10, .ref qf11, .ref qf12, .ref qf13, .ref qf14, .ref qf15, .int v16, .int v17, .int v18, .int v19, .int v20])), (qf5, .inr (3, [.ref qf5_0, .int v5_1, .int v5_2, .int v5_3, .ref qf5_4, .ref qf5_5, .ref qf5_6, .int v5_7, .int v5_8, .int v5_9, .int v5_10, .ref qf5_11, .int v5_12, .ref qf5_13])), (qf5_13, .inl (cf5_13, 144, .inl f5_13)), (qf14, .inl (cf14, 30, .inl f14)), (qf15, .inl (cf15, 30, .inl f15)), (qf1, .inr (4, [.ref qf1_0, .ref qf1_1])), (qf1_1, .inl (cf1_1, 256, .inl f1_1))] s.heap := hP
  have hl := lv_entry ([.ref h0, .int a1, .int a2]) (n := 4) (Nat.le_of_ble_eq_true rfl)
  rw [lg_entry_eq]
  generalize (lg_sl ([.ref h0, .int a1, .int a2]) ++ List.replicate (4 - (lg_sl ([.ref h0, .int a1, .int a2])).length) Slot.unset).toArray = ls at hl ⊢
  have hl : lv_has ls 4 [(0, .ref h0), (1, .int a1), (2, .int a2)] := hl
  obtain ⟨H, hH⟩ : ∃ H : Heap, s.heap = H := ⟨_, rfl⟩
  rw [hH] at hP ⊢
  have hS : va_S A s.heap H [] := by rw [← hH]; exact va_S.rf
  obtain ⟨locs, hlo⟩ : ∃ locs : List Loc, locs = [] := ⟨_, rfl⟩
  rw [← hlo] at hS ⊢
  unfold sp_t11_applyLocal at hsp
  refine lv_iload_n hx hb dX11_applyLocal_0 rfl (lv_at hl 2 rfl) ?_
  refine lv_aload_n hx hb dX11_applyLocal_1 rfl (lv_at hl 0 rfl) ?_
  refine lv_iconst (v := 4) hx hb dX11_applyLocal_2 (by decide) ?_
  obtain ⟨u1_0, hu_1, hsp⟩ := ox_bind hsp
  try dsimp only at hsp
  have hPc := hP.sub (ws' := [(h0, .inr (11, [.ref qf0, .ref qf1, .int v2, .int v3, .int v4, .ref qf5, .int v6, .int v7, .ref qf8, .ref qf9, .ref qf10, .ref qf11, .ref qf12, .ref qf13, .ref qf14, .ref qf15, .int v16, .int v17, .int v18, .int v19, .int v20])), (qf5, .inr (3, [.ref qf5_0, .int v5_1, .int v5_2, .int v5_3, .ref qf5_4, .ref qf5_5, .ref qf5_6, .int v5_7, .int v5_8, .int v5_9, .int v5_10, .ref qf5_11, .int v5_12, .ref qf5_13])), (qf5_13, .inl (cf5_13, 144, .inl f5_13))]) [0, 1, 2] rfl
  have hDc := hD.sub (ws' := [(h0, .inr (11, [.ref qf0, .ref qf1, .int v2, .int v3, .int v4, .ref qf5, .int v6, .int v7, .ref qf8, .ref qf9, .ref qf10, .ref qf11, .ref qf12, .ref qf13, .ref qf14, .ref qf15, .int v16, .int v17, .int v18, .int v19, .int v20])), (qf5, .inr (3, [.ref qf5_0, .int v5_1, .int v5_2, .int v5_3, .ref qf5_4, .ref qf5_5, .ref qf5_6, .int v5_7, .int v5_8, .int v5_9, .int v5_10, .ref qf5_11, .int v5_12, .ref qf5_13])), (qf5_13, .inl (cf5_13, 144, .inl f5_13))]) [0, 1, 2] (by decide) rfl
  have hKc := hK.sub (tys' := [(cf5_13, .int)]) [0] rfl
  have hFc := va_free (wc := [(h0, .inr (11, [.ref qf0, .ref qf1, .int v2, .int v3, .int v4, .ref qf5, .int v6, .int v7, .ref qf8, .ref qf9, .ref qf10, .ref qf11, .ref qf12, .ref qf13, .ref qf14, .ref qf15, .int v16, .int v17, .int v18, .int v19, .int v20])), (qf5, .inr (3, [.ref qf5_0, .int v5_1, .int v5_2, .int v5_3, .ref qf5_4, .ref qf5_5, .ref qf5_6, .int v5_7, .int v5_8, .int v5_9, .int v5_10, .ref qf5_11, .int v5_12, .ref qf5_13])), (qf5_13, .inl (cf5_13, 144, .inl f5_13))]) hD hS hA [0, 1, 2] rfl
  refine va_calli (va_runV (As := [.int 4]) (rest := [.int a2]) ⟨hx, hb, hml, hown, hts⟩ (t11_info l dC dI H.size h0 4 qf0 qf1 v2 v3 v4 qf5 v6 v7 qf8 qf9 qf10 qf11 qf12 qf13 qf14 qf15 v16 v17 v18 v19 v20 qf5_0 v5_1 v5_2 v5_3 qf5_4 qf5_5 qf5_6 v5_7 v5_8 v5_9 v5_10 qf5_11 v5_12 qf5_13 cf5_13 f5_13 nf u1_0 hu_1) (cwV 1 hts gv_h3_35 rfl rfl rfl (by decide +kernel) ⟨Nat.le_of_ble_eq_true rfl, Nat.le_of_ble_eq_true rfl⟩) ⟨fun a U g mk q => by obtain ⟨q0, q1, qP, qK, qD⟩ := q; exact ⟨q0, q1, qP, va_K.moved (u := U) (U := U.calling g mk a) (Vm.Alike.refl U.vm) qK, qD⟩, va_recv hKc hPc (ci := 11) (q0 := 0) rfl rfl, fun U hU hW => ⟨rfl, by rw [hU], by rw [hU]; exact hPc, va_K.moved hW.alike hKc, hDc.weaken (fun _ _ _ _ => trivial)⟩⟩ rfl rfl hl.1 rfl (lv_room (Nat.le_of_ble_eq_true rfl)) dX11_applyLocal_3 ⟨Nat.le_of_ble_eq_true rfl, Nat.le_of_ble_eq_true rfl⟩) hS (fun q _ h => hFc q h) hFc ?_
  clear hS
  intro r_1 u t H1 locs ht hvm hw hB hz1 hk1 hS
  obtain ⟨⟩ := u
  obtain ⟨hP1, hK1, hD1⟩ := hB
  rw [ht] at hP1
  have hK1 := va_K.moved hvm.symm hK1
  try dsimp only at hw
  have hPD := va_join (wr := [(qf14, .inl (cf14, 30, .inl f14)), (qf15, .inl (cf15, 30, .inl f15)), (qf1, .inr (4, [.ref qf1_0, .ref qf1_1])), (qf1_1, .inl (cf1_1, 256, .inl f1_1))]) (w1 := [(h0, .inr (11, [.ref qf0, .ref qf1, .int v2, .int v3, .int v4, .ref qf5, .int v6, .int v7, .ref qf8, .ref qf9, .ref qf10, .ref qf11, .ref qf12, .ref qf13, .ref qf14, .ref qf15, .int v16, .int v17, .int v18, .int v19, .int v20])), (qf5, .inr (3, [.ref qf5_0, .int v5_1, .int v5_2, .int v5_3, .ref qf5_4, .ref qf5_5, .ref qf5_6, .int v5_7, .int v5_8, .int v5_9, .int v5_10, .ref qf5_11, .int v5_12, .ref qf5_13])), (qf5_13, .inl (cf5_13, 144, .inl f5_13))]) hP hD [0, 1, 2] [3, 4, 5, 6] rfl rfl (by decide) (by decide) hk1 hFc hP1 hD1
  clear hP hD
  obtain ⟨hP, hD⟩ := hPD
  replace hK := (hK.sub (tys' := [(cf14, .int), (cf15, .int), (cf1_1, .boolean)]) [1, 2, 3] rfl).app hK1
  clear hPc hDc hKc hFc hP1 hK1 hD1 hz1 hk1 ht hvm
  generalize H1 = H at hP hS ⊢
  replace hP : va_P (dC, dI) vwCl [(qf14, .inl (cf14, 30, .inl f14)), (qf15, .inl (cf15, 30, .inl f15)), (qf1, .inr (4, [.ref qf1_0, .ref qf1_1])), (qf1_1, .inl (cf1_1, 256, .inl f1_1)), (h0, .inr (11, [.ref qf0, .ref qf1, .int v2, .int v3, .int v4, .ref qf5, .int v6, .int v7, .ref qf8, .ref qf9, .ref qf10, .ref qf11, .ref qf12, .ref qf13, .ref qf14, .ref qf15, .int v16, .int v17, .int v18, .int v19, .int v20])), (qf5, .inr (3, [.ref qf5_0, .int v5_1, .int v5_2, .int v5_3, .ref qf5_4, .ref qf5_5, .ref qf5_6, .int v5_7, .int v5_8, .int v5_9, .int v5_10, .ref qf5_11, .int v5_12, .ref qf5_13])), (qf5_13, .inl (cf5_13, 144, .inl f5_13))] H := hP
  replace hD : va_D A [(qf14, .inl (cf14, 30, .inl f14)), (qf15, .inl (cf15, 30, .inl f15)), (qf1, .inr (4, [.ref qf1_0, .ref qf1_1])), (qf1_1, .inl (cf1_1, 256, .inl f1_1)), (h0, .inr (11, [.ref qf0, .ref qf1, .int v2, .int v3, .int v4, .ref qf5, .int v6, .int v7, .ref qf8, .ref qf9, .ref qf10, .ref qf11, .ref qf12, .ref qf13, .ref qf14, .ref qf15, .int v16, .int v17, .int v18, .int v19, .int v20])), (qf5, .inr (3, [.ref qf5_0, .int v5_1, .int v5_2, .int v5_3, .ref qf5_4, .ref qf5_5, .ref qf5_6, .int v5_7, .int v5_8, .int v5_9, .int v5_10, .ref qf5_11, .int v5_12, .ref qf5_13])), (qf5_13, .inl (cf5_13, 144, .inl f5_13))] := hD
  replace hK : va_K (dC, dI) vwCl [(cf14, .int), (cf15, .int), (cf1_1, .boolean), (cf5_13, .int)] s := hK
  obtain rfl := hw
  refine lv_icmp_ge (tgt := 18) hx hb dX11_applyLocal_6 (by decide) (fun c_2 => ?_) (fun c_2 => ?_)
  · rw [if_pos c_2] at hsp
    refine lv_aload_n hx hb dX11_applyLocal_18 rfl (lv_at hl 0 rfl) ?_
    refine lv_iconst (v := 0) hx hb dX11_applyLocal_19 (by decide) ?_
    refine va_put (D := (dC, dI)) (ci := 11) (v := .int 0) (ty := .boolean) (C := RX11) (T := TX11) (N := 21) hx hb hts uV_h3_X11 tyX11 tyX11_ok nmX11 hown hK hP hD hS 4 rfl rfl 19 (by decide) (hts (.fieldLink RX11 295 "ClassMill$Verifier" "fitting" "Z") mw_h3_220) (fun _ h9 => h9) rfl (by decide +kernel) rfl rfl (Nat.le_of_ble_eq_true rfl) dX11_applyLocal_20 ?_
    clear hP hD hS
    intro H locs hP hD hS
    replace hP : va_P (dC, dI) vwCl [(qf14, .inl (cf14, 30, .inl f14)), (qf15, .inl (cf15, 30, .inl f15)), (qf1, .inr (4, [.ref qf1_0, .ref qf1_1])), (qf1_1, .inl (cf1_1, 256, .inl f1_1)), (h0, .inr (11, [.ref qf0, .ref qf1, .int v2, .int v3, .int v4, .ref qf5, .int v6, .int v7, .ref qf8, .ref qf9, .ref qf10, .ref qf11, .ref qf12, .ref qf13, .ref qf14, .ref qf15, .int v16, .int v17, .int v18, .int 0, .int v20])), (qf5, .inr (3, [.ref qf5_0, .int v5_1, .int v5_2, .int v5_3, .ref qf5_4, .ref qf5_5, .ref qf5_6, .int v5_7, .int v5_8, .int v5_9, .int v5_10, .ref qf5_11, .int v5_12, .ref qf5_13])), (qf5_13, .inl (cf5_13, 144, .inl f5_13))] H := hP
    replace hD : va_D A [(qf14, .inl (cf14, 30, .inl f14)), (qf15, .inl (cf15, 30, .inl f15)), (qf1, .inr (4, [.ref qf1_0, .ref qf1_1])), (qf1_1, .inl (cf1_1, 256, .inl f1_1)), (h0, .inr (11, [.ref qf0, .ref qf1, .int v2, .int v3, .int v4, .ref qf5, .int v6, .int v7, .ref qf8, .ref qf9, .ref qf10, .ref qf11, .ref qf12, .ref qf13, .ref qf14, .ref qf15, .int v16, .int v17, .int v18, .int 0, .int v20])), (qf5, .inr (3, [.ref qf5_0, .int v5_1, .int v5_2, .int v5_3, .ref qf5_4, .ref qf5_5, .ref qf5_6, .int v5_7, .int v5_8, .int v5_9, .int v5_10, .ref qf5_11, .int v5_12, .ref qf5_13])), (qf5_13, .inl (cf5_13, 144, .inl f5_13))] := hD
    refine lv_goto (tgt := 142) hx hb dX11_applyLocal_23 (by decide) ?_
    have hr0 := Option.some.inj hsp
    clear hsp
    obtain ⟨hq0, hr1⟩ := Prod.mk.inj hr0
    clear hr0
    obtain ⟨hq1, hr2⟩ := Prod.mk.inj hr1
    clear hr1
    obtain ⟨hq2, hr3⟩ := Prod.mk.inj hr2
    clear hr2
    subst hq0
    subst hq1
    subst hq2
    subst hr3
    have hP9 := hP.sub (ws' := [(h0, .inr (11, [.ref qf0, .ref qf1, .int v2, .int v3, .int v4, .ref qf5, .int v6, .int v7, .ref qf8, .ref qf9, .ref qf10, .ref qf11, .ref qf12, .ref qf13, .ref qf14, .ref qf15, .int v16, .int v17, .int v18, .int 0, .int v20])), (qf5, .inr (3, [.ref qf5_0, .int v5_1, .int v5_2, .int v5_3, .ref qf5_4, .ref qf5_5, .ref qf5_6, .int v5_7, .int v5_8, .int v5_9, .int v5_10, .ref qf5_11, .int v5_12, .ref qf5_13])), (qf5_13, .inl (cf5_13, 144, .inl f5_13)), (qf14, .inl (cf14, 30, .inl f14)), (qf15, .inl (cf15, 30, .inl f15)), (qf1, .inr (4, [.ref qf1_0, .ref qf1_1])), (qf1_1, .inl (cf1_1, 256, .inl f1_1))]) [4, 5, 6, 0, 1, 2, 3] rfl
    have hD9 := hD.sub (ws' := [(h0, .inr (11, [.ref qf0, .ref qf1, .int v2, .int v3, .int v4, .ref qf5, .int v6, .int v7, .ref qf8, .ref qf9, .ref qf10, .ref qf11, .ref qf12, .ref qf13, .ref qf14, .ref qf15, .int v16, .int v17, .int v18, .int 0, .int v20])), (qf5, .inr (3, [.ref qf5_0, .int v5_1, .int v5_2, .int v5_3, .ref qf5_4, .ref qf5_5, .ref qf5_6, .int v5_7, .int v5_8, .int v5_9, .int v5_10, .ref qf5_11, .int v5_12, .ref qf5_13])), (qf5_13, .inl (cf5_13, 144, .inl f5_13)), (qf14, .inl (cf14, 30, .inl f14)), (qf15, .inl (cf15, 30, .inl f15)), (qf1, .inr (4, [.ref qf1_0, .ref qf1_1])), (qf1_1, .inl (cf1_1, 256, .inl f1_1))]) [4, 5, 6, 0, 1, 2, 3] (by decide) rfl
    have hK9 := hK.sub (tys' := [(cf5_13, .int), (cf14, .int), (cf15, .int), (cf1_1, .boolean)]) [3, 0, 1, 2] rfl
    exact W.vret hx hb hr (fun t ht hW => ⟨⟨(), rfl, trivial, by rw [ht]; exact hP9, va_K.moved hW.alike hK9, hD9⟩, hS.F ht⟩) hS.2.2 dX11_applyLocal_142
  · rw [if_neg c_2] at hsp
    refine lv_iload_n hx hb dX11_applyLocal_9 rfl (lv_at hl 2 rfl) ?_
    refine lv_aload_n hx hb dX11_applyLocal_10 rfl (lv_at hl 0 rfl) ?_
    refine va_get (D := (dC, dI)) (ci := 11) (v := .ref qf14) (C := RX11) (T := TX11) (N := 21) hx hb hts uV_h3_X11 hown hK hP 4 rfl rfl 14 (by decide) (hts (.fieldLink RX11 44 "ClassMill$Verifier" "locals" "[I") mw_h3_205) (fun _ h9 => h9) rfl dX11_applyLocal_11 ?_
    refine va_alen (v := 30) hx hb hK hP 0 0 rfl rfl rfl dX11_applyLocal_14 ?_
    refine lv_icmp_lt (tgt := 26) hx hb dX11_applyLocal_15 (by decide) (fun c_3 => ?_) (fun c_3 => ?_)
    · rw [if_pos c_3] at hsp
      refine lv_iload_n hx hb dX11_applyLocal_26 rfl (lv_at hl 1 rfl) ?_
      refine lv_bipush (v := 21) hx hb dX11_applyLocal_27 (by decide) ?_
      refine lv_icmp_eq (tgt := 38) hx hb dX11_applyLocal_29 (by decide) (fun c_4 => ?_) (fun c_4 => ?_)
      · rw [if_pos c_4] at hsp
        refine lv_iload_n hx hb dX11_applyLocal_38 rfl (lv_at hl 1 rfl) ?_
        refine lv_bipush (v := 21) hx hb dX11_applyLocal_39 (by decide) ?_
        refine lv_icmp_ne (tgt := 64) hx hb dX11_applyLocal_41 (by decide) (fun c_5 => ?_) (fun c_5 => ?_)
        · rw [if_neg c_5] at hsp
          refine lv_aload_n hx hb dX11_applyLocal_64 rfl (lv_at hl 0 rfl) ?_
          refine va_get (D := (dC, dI)) (ci := 11) (v := .ref qf14) (C := RX11) (T := TX11) (N := 21) hx hb hts uV_h3_X11 hown hK hP 4 rfl rfl 14 (by decide) (hts (.fieldLink RX11 44 "ClassMill$Verifier" "locals" "[I") mw_h3_205) (fun _ h9 => h9) rfl dX11_applyLocal_65 ?_
          refine lv_iload_n hx hb dX11_applyLocal_68 rfl (lv_at hl 2 rfl) ?_
          obtain ⟨hi_6, hsp⟩ := ox_in hsp
          refine va_iald hx hb hK hP 0 0 rfl rfl (i := a2) hi_6 dX11_applyLocal_69 ?_
          obtain ⟨u2_0, hu_2, hsp⟩ := ox_bind hsp
          try dsimp only at hsp
          have hPc := hP.sub (ws' := []) [] rfl
          have hDc := hD.sub (ws' := []) [] (by decide) rfl
          have hKc := hK.sub (tys' := []) [] rfl
          have hFc := va_free (wc := []) hD hS hA [] rfl
          refine va_calli (va_runS (As := [.int (f14 (a2 : Int32).toNatClampNeg)]) (rest := []) ⟨hx, hb, hml, hown, hts⟩ (t4_isReference l dC dI H.size ((f14 (a2 : Int32).toNatClampNeg)) nf u2_0 hu_2) (va_cwS 1 hts gv_h3_50 rfl rfl rfl (by decide +kernel) ⟨Nat.le_of_ble_eq_true rfl, Nat.le_of_ble_eq_true rfl⟩) ⟨fun a U g mk q => by obtain ⟨q0, q1, qP, qK, qD⟩ := q; exact ⟨q0, q1, qP, va_K.moved (u := U) (U := U.calling g mk a) (Vm.Alike.refl U.vm) qK, qD⟩, fun U hU hW => ⟨rfl, by rw [hU], by rw [hU]; exact hPc, va_K.moved hW.alike hKc, hDc.weaken (fun _ _ _ _ => trivial)⟩⟩ rfl rfl hl.1 rfl (lv_room (Nat.le_of_ble_eq_true rfl)) dX11_applyLocal_70 ⟨Nat.le_of_ble_eq_true rfl, Nat.le_of_ble_eq_true rfl⟩) hS (fun q _ h => hFc q h) hFc ?_
          clear hS
          intro r_7 u t H1 locs ht hvm hw hB hz1 hk1 hS
          obtain ⟨⟩ := u
          obtain ⟨hP1, hK1, hD1⟩ := hB
          rw [ht] at hP1
          have hK1 := va_K.moved hvm.symm hK1
          try dsimp only at hw
          have hPD := va_join (wr := [(qf14, .inl (cf14, 30, .inl f14)), (qf15, .inl (cf15, 30, .inl f15)), (qf1, .inr (4, [.ref qf1_0, .ref qf1_1])), (qf1_1, .inl (cf1_1, 256, .inl f1_1)), (h0, .inr (11, [.ref qf0, .ref qf1, .int v2, .int v3, .int v4, .ref qf5, .int v6, .int v7, .ref qf8, .ref qf9, .ref qf10, .ref qf11, .ref qf12, .ref qf13, .ref qf14, .ref qf15, .int v16, .int v17, .int v18, .int v19, .int v20])), (qf5, .inr (3, [.ref qf5_0, .int v5_1, .int v5_2, .int v5_3, .ref qf5_4, .ref qf5_5, .ref qf5_6, .int v5_7, .int v5_8, .int v5_9, .int v5_10, .ref qf5_11, .int v5_12, .ref qf5_13])), (qf5_13, .inl (cf5_13, 144, .inl f5_13))]) (w1 := []) hP hD [] [0, 1, 2, 3, 4, 5, 6] rfl rfl (by decide) (by decide) hk1 hFc hP1 hD1
          clear hP hD
          obtain ⟨hP, hD⟩ := hPD
          replace hK := (hK.sub (tys' := [(cf14, .int), (cf15, .int), (cf1_1, .boolean), (cf5_13, .int)]) [0, 1, 2, 3] rfl).app hK1
          clear hPc hDc hKc hFc hP1 hK1 hD1 hz1 hk1 ht hvm
          generalize H1 = H at hP hS ⊢
          replace hP : va_P (dC, dI) vwCl [(qf14, .inl (cf14, 30, .inl f14)), (qf15, .inl (cf15, 30, .inl f15)), (qf1, .inr (4, [.ref qf1_0, .ref qf1_1])), (qf1_1, .inl (cf1_1, 256, .inl f1_1)), (h0, .inr (11, [.ref qf0, .ref qf1, .int v2, .int v3, .int v4, .ref qf5, .int v6, .int v7, .ref qf8, .ref qf9, .ref qf10, .ref qf11, .ref qf12, .ref qf13, .ref qf14, .ref qf15, .int v16, .int v17, .int v18, .int v19, .int v20])), (qf5, .inr (3, [.ref qf5_0, .int v5_1, .int v5_2, .int v5_3, .ref qf5_4, .ref qf5_5, .ref qf5_6, .int v5_7, .int v5_8, .int v5_9, .int v5_10, .ref qf5_11, .int v5_12, .ref qf5_13])), (qf5_13, .inl (cf5_13, 144, .inl f5_13))] H := hP
          replace hD : va_D A [(qf14, .inl (cf14, 30, .inl f14)), (qf15, .inl (cf15, 30, .inl f15)), (qf1, .inr (4, [.ref qf1_0, .ref qf1_1])), (qf1_1, .inl (cf1_1, 256, .inl f1_1)), (h0, .inr (11, [.ref qf0, .ref qf1, .int v2, .int v3, .int v4, .ref qf5, .int v6, .int v7, .ref qf8, .ref qf9, .ref qf10, .ref qf11, .ref qf12, .ref qf13, .ref qf14, .ref qf15, .int v16, .int v17, .int v18, .int v19, .int v20])), (qf5, .inr (3, [.ref qf5_0, .int v5_1, .int v5_2, .int v5_3, .ref qf5_4, .ref qf5_5, .ref qf5_6, .int v5_7, .int v5_8, .int v5_9, .int v5_10, .ref qf5_11, .int v5_12, .ref qf5_13])), (qf5_13, .inl (cf5_13, 144, .inl f5_13))] := hD
          replace hK : va_K (dC, dI) vwCl [(cf14, .int), (cf15, .int), (cf1_1, .boolean), (cf5_13, .int)] s := hK
          obtain ⟨rfl, hz_2⟩ := hw
          rcases hz_2 with rfl | rfl
          · rw [if_pos rfl] at hsp
            refine lv_istore_n (lv' := [(3, .int 0), (0, .ref h0), (1, .int a1), (2, .int a2)]) hx hb dX11_applyLocal_73 rfl hl (by decide) rfl (fun ls hl => ?_)
            refine lv_aload_n hx hb dX11_applyLocal_74 rfl (lv_at hl 1 rfl) ?_
            refine lv_aload_n hx hb dX11_applyLocal_75 rfl (lv_at hl 1 rfl) ?_
            refine va_get (D := (dC, dI)) (ci := 11) (v := .int v19) (C := RX11) (T := TX11) (N := 21) hx hb hts uV_h3_X11 hown hK hP 4 rfl rfl 19 (by decide) (hts (.fieldLink RX11 295 "ClassMill$Verifier" "fitting" "Z") mw_h3_220) (fun _ h9 => h9) rfl dX11_applyLocal_76 ?_
            refine lv_if_eq (tgt := 90) hx hb dX11_applyLocal_79 (by decide) (fun c_8 => ?_) (fun c_8 => ?_)
            · rw [if_pos c_8] at hsp
              refine lv_iconst (v := 0) hx hb dX11_applyLocal_90 (by decide) ?_
              refine va_put (D := (dC, dI)) (ci := 11) (v := .int 0) (ty := .boolean) (C := RX11) (T := TX11) (N := 21) hx hb hts uV_h3_X11 tyX11 tyX11_ok nmX11 hown hK hP hD hS 4 rfl rfl 19 (by decide) (hts (.fieldLink RX11 295 "ClassMill$Verifier" "fitting" "Z") mw_h3_220) (fun _ h9 => h9) rfl (by decide +kernel) rfl rfl (Nat.le_of_ble_eq_true rfl) dX11_applyLocal_91 ?_
              clear hP hD hS
              intro H locs hP hD hS
              replace hP : va_P (dC, dI) vwCl [(qf14, .inl (cf14, 30, .inl f14)), (qf15, .inl (cf15, 30, .inl f15)), (qf1, .inr (4, [.ref qf1_0, .ref qf1_1])), (qf1_1, .inl (cf1_1, 256, .inl f1_1)), (h0, .inr (11, [.ref qf0, .ref qf1, .int v2, .int v3, .int v4, .ref qf5, .int v6, .int v7, .ref qf8, .ref qf9, .ref qf10, .ref qf11, .ref qf12, .ref qf13, .ref qf14, .ref qf15, .int v16, .int v17, .int v18, .int 0, .int v20])), (qf5, .inr (3, [.ref qf5_0, .int v5_1, .int v5_2, .int v5_3, .ref qf5_4, .ref qf5_5, .ref qf5_6, .int v5_7, .int v5_8, .int v5_9, .int v5_10, .ref qf5_11, .int v5_12, .ref qf5_13])), (qf5_13, .inl (cf5_13, 144, .inl f5_13))] H := hP
              replace hD : va_D A [(qf14, .inl (cf14, 30, .inl f14)), (qf15, .inl (cf15, 30, .inl f15)), (qf1, .inr (4, [.ref qf1_0, .ref qf1_1])), (qf1_1, .inl (cf1_1, 256, .inl f1_1)), (h0, .inr (11, [.ref qf0, .ref qf1, .int v2, .int v3, .int v4, .ref qf5, .int v6, .int v7, .ref qf8, .ref qf9, .ref qf10, .ref qf11, .ref qf12, .ref qf13, .ref qf14, .ref qf15, .int v16, .int v17, .int v18, .int 0, .int v20])), (qf5, .inr (3, [.ref qf5_0, .int v5_1, .int v5_2, .int v5_3, .ref qf5_4, .ref qf5_5, .ref qf5_6, .int v5_7, .int v5_8, .int v5_9, .int v5_10, .ref qf5_11, .int v5_12, .ref qf5_13])), (qf5_13, .inl (cf5_13, 144, .inl f5_13))] := hD
              refine lv_aload_n hx hb dX11_applyLocal_94 rfl (lv_at hl 1 rfl) ?_
              refine lv_aload_n hx hb dX11_applyLocal_95 rfl (lv_at hl 1 rfl) ?_
              refine va_get (D := (dC, dI)) (ci := 11) (v := .ref qf14) (C := RX11) (T := TX11) (N := 21) hx hb hts uV_h3_X11 hown hK hP 4 rfl rfl 14 (by decide) (hts (.fieldLink RX11 44 "ClassMill$Verifier" "locals" "[I") mw_h3_205) (fun _ h9 => h9) rfl dX11_applyLocal_96 ?_
              refine lv_iload_n hx hb dX11_applyLocal_99 rfl (lv_at hl 3 rfl) ?_
              obtain ⟨hi_9, hsp⟩ := ox_in hsp
              refine va_iald hx hb hK hP 0 0 rfl rfl (i := a2) hi_9 dX11_applyLocal_100 ?_
              obtain ⟨⟨g903_0, u3_1, u3_2⟩, hu_3, hsp⟩ := ox_bind hsp
              try dsimp only at hsp
              have hPc := hP.sub (ws' := [(h0, .inr (11, [.ref qf0, .ref qf1, .int v2, .int v3, .int v4, .ref qf5, .int v6, .int v7, .ref qf8, .ref qf9, .ref qf10, .ref qf11, .ref qf12, .ref qf13, .ref qf14, .ref qf15, .int v16, .int v17, .int v18, .int 0, .int v20])), (qf15, .inl (cf15, 30, .inl f15))]) [4, 1] rfl
              have hDc := hD.sub (ws' := [(h0, .inr (11, [.ref qf0, .ref qf1, .int v2, .int v3, .int v4, .ref qf5, .int v6, .int v7, .ref qf8, .ref qf9, .ref qf10, .ref qf11, .ref qf12, .ref qf13, .ref qf14, .ref qf15, .int v16, .int v17, .int v18, .int 0, .int v20])), (qf15, .inl (cf15, 30, .inl f15))]) [4, 1] (by decide) rfl
              have hKc := hK.sub (tys' := [(cf15, .int)]) [1] rfl
              have hFc := va_free (wc := [(h0, .inr (11, [.ref qf0, .ref qf1, .int v2, .int v3, .int v4, .ref qf5, .int v6, .int v7, .ref qf8, .ref qf9, .ref qf10, .ref qf11, .ref qf12, .ref qf13, .ref qf14, .ref qf15, .int v16, .int v17, .int v18, .int 0, .int v20])), (qf15, .inl (cf15, 30, .inl f15))]) hD hS hA [4, 1] rfl
              refine va_callv (va_runV (As := [.int (f14 (a2 : Int32).toNatClampNeg)]) (rest := []) ⟨hx, hb, hml, hown, hts⟩ (t11_push l dC dI H.size h0 ((f14 (a2 : Int32).toNatClampNeg)) qf0 qf1 v2 v3 v4 qf5 v6 v7 qf8 qf9 qf10 qf11 qf12 qf13 qf14 qf15 v16 v17 v18 0 v20 cf15 f15 nf g903_0 u3_1 u3_2 hu_3) (cwV 1 hts gv_h3_52 rfl rfl rfl (by decide +kernel) ⟨Nat.le_of_ble_eq_true rfl, Nat.le_of_ble_eq_true rfl⟩) ⟨fun a U g mk q => by obtain ⟨q0, q1, qP, qK, qD⟩ := q; exact ⟨q0, q1, qP, va_K.moved (u := U) (U := U.calling g mk a) (Vm.Alike.refl U.vm) qK, qD⟩, va_recv hKc hPc (ci := 11) (q0 := 0) rfl rfl, fun U hU hW => ⟨rfl, by rw [hU], by rw [hU]; exact hPc, va_K.moved hW.alike hKc, hDc.weaken (fun _ _ _ _ => trivial)⟩⟩ rfl rfl hl.1 rfl (lv_room (Nat.le_of_ble_eq_true rfl)) dX11_applyLocal_101 ⟨Nat.le_of_ble_eq_true rfl, Nat.le_of_ble_eq_true rfl⟩) hS (fun q _ h => hFc q h) hFc ?_
              clear hS
              intro u t H1 locs ht hvm hw hB hz1 hk1 hS
              obtain ⟨⟩ := u
              obtain ⟨hP1, hK1, hD1⟩ := hB
              rw [ht] at hP1
              have hK1 := va_K.moved hvm.symm hK1
              try dsimp only at hw
              have hPD := va_join (wr := [(qf14, .inl (cf14, 30, .inl f14)), (qf1, .inr (4, [.ref qf1_0, .ref qf1_1])), (qf1_1, .inl (cf1_1, 256, .inl f1_1)), (qf5, .inr (3, [.ref qf5_0, .int v5_1, .int v5_2, .int v5_3, .ref qf5_4, .ref qf5_5, .ref qf5_6, .int v5_7, .int v5_8, .int v5_9, .int v5_10, .ref qf5_11, .int v5_12, .ref qf5_13])), (qf5_13, .inl (cf5_13, 144, .inl f5_13))]) (w1 := [(h0, .inr (11, [.ref qf0, .ref qf1, .int v2, .int v3, .int v4, .ref qf5, .int v6, .int v7, .ref qf8, .ref qf9, .ref qf10, .ref qf11, .ref qf12, .ref qf13, .ref qf14, .ref qf15, .int v16, .int v17, .int u3_1, .int u3_2, .int v20])), (qf15, .inl (cf15, 30, .inl g903_0))]) hP hD [4, 1] [0, 2, 3, 5, 6] rfl rfl (by decide) (by decide) hk1 hFc hP1 hD1
              clear hP hD
              obtain ⟨hP, hD⟩ := hPD
              replace hK := (hK.sub (tys' := [(cf14, .int), (cf1_1, .boolean), (cf5_13, .int)]) [0, 2, 3] rfl).app hK1
              clear hPc hDc hKc hFc hP1 hK1 hD1 hz1 hk1 ht hvm
              generalize H1 = H at hP hS ⊢
              replace hP : va_P (dC, dI) vwCl [(qf14, .inl (cf14, 30, .inl f14)), (qf1, .inr (4, [.ref qf1_0, .ref qf1_1])), (qf1_1, .inl (cf1_1, 256, .inl f1_1)), (qf5, .inr (3, [.ref qf5_0, .int v5_1, .int v5_2, .int v5_3, .ref qf5_4, .ref qf5_5, .ref qf5_6, .int v5_7, .int v5_8, .int v5_9, .int v5_10, .ref qf5_11, .int v5_12, .ref qf5_13])), (qf5_13, .inl (cf5_13, 144, .inl f5_13)), (h0, .inr (11, [.ref qf0, .ref qf1, .int v2, .int v3, .int v4, .ref qf5, .int v6, .int v7, .ref qf8, .ref qf9, .ref qf10, .ref qf11, .ref qf12, .ref qf13, .ref qf14, .ref qf15, .int v16, .int v17, .int u3_1, .int u3_2, .int v20])), (qf15, .inl (cf15, 30, .inl g903_0))] H := hP
              replace hD : va_D A [(qf14, .inl (cf14, 30, .inl f14)), (qf1, .inr (4, [.ref qf1_0, .ref qf1_1])), (qf1_1, .inl (cf1_1, 256, .inl f1_1)), (qf5, .inr (3, [.ref qf5_0, .int v5_1, .int v5_2, .int v5_3, .ref qf5_4, .ref qf5_5, .ref qf5_6, .int v5_7, .int v5_8, .int v5_9, .int v5_10, .ref qf5_11, .int v5_12, .ref qf5_13])), (qf5_13, .inl (cf5_13, 144, .inl f5_13)), (h0, .inr (11, [.ref qf0, .ref qf1, .int v2, .int v3, .int v4, .ref qf5, .int v6, .int v7, .ref qf8, .ref qf9, .ref qf10, .ref qf11, .ref qf12, .ref qf13, .ref qf14, .ref qf15, .int v16, .int v17, .int u3_1, .int u3_2, .int v20])), (qf15, .inl (cf15, 30, .inl g903_0))] := hD
              replace hK : va_K (dC, dI) vwCl [(cf14, .int), (cf1_1, .boolean), (cf5_13, .int), (cf15, .int)] s := hK
              refine lv_goto (tgt := 142) hx hb dX11_applyLocal_104 (by decide) ?_
              have hr0 := Option.some.inj hsp
              clear hsp
              obtain ⟨hq0, hr1⟩ := Prod.mk.inj hr0
              clear hr0
              obtain ⟨hq1, hr2⟩ := Prod.mk.inj hr1
              clear hr1
              obtain ⟨hq2, hr3⟩ := Prod.mk.inj hr2
              clear hr2
              subst hq0
              subst hq1
              subst hq2
              subst hr3
              have hP9 := hP.sub (ws' := [(h0, .inr (11, [.ref qf0, .ref qf1, .int v2, .int v3, .int v4, .ref qf5, .int v6, .int v7, .ref qf8, .ref qf9, .ref qf10, .ref qf11, .ref qf12, .ref qf13, .ref qf14, .ref qf15, .int v16, .int v17, .int u3_1, .int u3_2, .int v20])), (qf5, .inr (3, [.ref qf5_0, .int v5_1, .int v5_2, .int v5_3, .ref qf5_4, .ref qf5_5, .ref qf5_6, .int v5_7, .int v5_8, .int v5_9, .int v5_10, .ref qf5_11, .int v5_12, .ref qf5_13])), (qf5_13, .inl (cf5_13, 144, .inl f5_13)), (qf14, .inl (cf14, 30, .inl f14)), (qf15, .inl (cf15, 30, .inl g903_0)), (qf1, .inr (4, [.ref qf1_0, .ref qf1_1])), (qf1_1, .inl (cf1_1, 256, .inl f1_1))]) [5, 3, 4, 0, 6, 1, 2] rfl
              have hD9 := hD.sub (ws' := [(h0, .inr (11, [.ref qf0, .ref qf1, .int v2, .int v3, .int v4, .ref qf5, .int v6, .int v7, .ref qf8, .ref qf9, .ref qf10, .ref qf11, .ref qf12, .ref qf13, .ref qf14, .ref qf15, .int v16, .int v17, .int u3_1, .int u3_2, .int v20])), (qf5, .inr (3, [.ref qf5_0, .int v5_1, .int v5_2, .int v5_3, .ref qf5_4, .ref qf5_5, .ref qf5_6, .int v5_7, .int v5_8, .int v5_9, .int v5_10, .ref qf5_11, .int v5_12, .ref qf5_13])), (qf5_13, .inl (cf5_13, 144, .inl f5_13)), (qf14, .inl (cf14, 30, .inl f14)), (qf15, .inl (cf15, 30, .inl g903_0)), (qf1, .inr (4, [.ref qf1_0, .ref qf1_1])), (qf1_1, .inl (cf1_1, 256, .inl f1_1))]) [5, 3, 4, 0, 6, 1, 2] (by decide) rfl
              have hK9 := hK.sub (tys' := [(cf5_13, .int), (cf14, .int), (cf15, .int), (cf1_1, .boolean)]) [2, 0, 3, 1] rfl
              exact W.vret hx hb hr (fun t ht hW => ⟨⟨(), rfl, trivial, by rw [ht]; exact hP9, va_K.moved hW.alike hK9, hD9⟩, hS.F ht⟩) hS.2.2 dX11_applyLocal_142
            · rw [if_neg c_8] at hsp
              refine lv_iload_n hx hb dX11_applyLocal_82 rfl (lv_at hl 0 rfl) ?_
              refine lv_if_eq (tgt := 90) hx hb dX11_applyLocal_83 (by decide) (fun c_10 => ?_) (fun c_10 => (show False by revert c_10; decide).elim)
              refine lv_iconst (v := 0) hx hb dX11_applyLocal_90 (by decide) ?_
              refine va_put (D := (dC, dI)) (ci := 11) (v := .int 0) (ty := .boolean) (C := RX11) (T := TX11) (N := 21) hx hb hts uV_h3_X11 tyX11 tyX11_ok nmX11 hown hK hP hD hS 4 rfl rfl 19 (by decide) (hts (.fieldLink RX11 295 "ClassMill$Verifier" "fitting" "Z") mw_h3_220) (fun _ h9 => h9) rfl (by decide +kernel) rfl rfl (Nat.le_of_ble_eq_true rfl) dX11_applyLocal_91 ?_
              clear hP hD hS
              intro H locs hP hD hS
              replace hP : va_P (dC, dI) vwCl [(qf14, .inl (cf14, 30, .inl f14)), (qf15, .inl (cf15, 30, .inl f15)), (qf1, .inr (4, [.ref qf1_0, .ref qf1_1])), (qf1_1, .inl (cf1_1, 256, .inl f1_1)), (h0, .inr (11, [.ref qf0, .ref qf1, .int v2, .int v3, .int v4, .ref qf5, .int v6, .int v7, .ref qf8, .ref qf9, .ref qf10, .ref qf11, .ref qf12, .ref qf13, .ref qf14, .ref qf15, .int v16, .int v17, .int v18, .int 0, .int v20])), (qf5, .inr (3, [.ref qf5_0, .int v5_1, .int v5_2, .int v5_3, .ref qf5_4, .ref qf5_5, .ref qf5_6, .int v5_7, .int v5_8, .int v5_9, .int v5_10, .ref qf5_11, .int v5_12, .ref qf5_13])), (qf5_13, .inl (cf5_13, 144, .inl f5_13))] H := hP
              replace hD : va_D A [(qf14, .inl (cf14, 30, .inl f14)), (qf15, .inl (cf15, 30, .inl f15)), (qf1, .inr (4, [.ref qf1_0, .ref qf1_1])), (qf1_1, .inl (cf1_1, 256, .inl f1_1)), (h0, .inr (11, [.ref qf0, .ref qf1, .int v2, .int v3, .int v4, .ref qf5, .int v6, .int v7, .ref qf8, .ref qf9, .ref qf10, .ref qf11, .ref qf12, .ref qf13, .ref qf14, .ref qf15, .int v16, .int v17, .int v18, .int 0, .int v20])), (qf5, .inr (3, [.ref qf5_0, .int v5_1, .int v5_2, .int v5_3, .ref qf5_4, .ref qf5_5, .ref qf5_6, .int v5_7, .int v5_8, .int v5_9, .int v5_10, .ref qf5_11, .int v5_12, .ref qf5_13])), (qf5_13, .inl (cf5_13, 144, .inl f5_13))] := hD
              refine lv_aload_n hx hb dX11_applyLocal_94 rfl (lv_at hl 1 rfl) ?_
              refine lv_aload_n hx hb dX11_applyLocal_95 rfl (lv_at hl 1 rfl) ?_
              refine va_get (D := (dC, dI)) (ci := 11) (v := .ref qf14) (C := RX11) (T := TX11) (N := 21) hx hb hts uV_h3_X11 hown hK hP 4 rfl rfl 14 (by decide) (hts (.fieldLink RX11 44 "ClassMill$Verifier" "locals" "[I") mw_h3_205) (fun _ h9 => h9) rfl dX11_applyLocal_96 ?_
              refine lv_iload_n hx hb dX11_applyLocal_99 rfl (lv_at hl 3 rfl) ?_
              obtain ⟨hi_11, hsp⟩ := ox_in hsp
              refine va_iald hx hb hK hP 0 0 rfl rfl (i := a2) hi_11 dX11_applyLocal_100 ?_
              obtain ⟨⟨g904_0, u4_1, u4_2⟩, hu_4, hsp⟩ := ox_bind hsp
              try dsimp only at hsp
              have hPc := hP.sub (ws' := [(h0, .inr (11, [.ref qf0, .ref qf1, .int v2, .int v3, .int v4, .ref qf5, .int v6, .int v7, .ref qf8, .ref qf9, .ref qf10, .ref qf11, .ref qf12, .ref qf13, .ref qf14, .ref qf15, .int v16, .int v17, .int v18, .int 0, .int v20])), (qf15, .inl (cf15, 30, .inl f15))]) [4, 1] rfl
              have hDc := hD.sub (ws' := [(h0, .inr (11, [.ref qf0, .ref qf1, .int v2, .int v3, .int v4, .ref qf5, .int v6, .int v7, .ref qf8, .ref qf9, .ref qf10, .ref qf11, .ref qf12, .ref qf13, .ref qf14, .ref qf15, .int v16, .int v17, .int v18, .int 0, .int v20])), (qf15, .inl (cf15, 30, .inl f15))]) [4, 1] (by decide) rfl
              have hKc := hK.sub (tys' := [(cf15, .int)]) [1] rfl
              have hFc := va_free (wc := [(h0, .inr (11, [.ref qf0, .ref qf1, .int v2, .int v3, .int v4, .ref qf5, .int v6, .int v7, .ref qf8, .ref qf9, .ref qf10, .ref qf11, .ref qf12, .ref qf13, .ref qf14, .ref qf15, .int v16, .int v17, .int v18, .int 0, .int v20])), (qf15, .inl (cf15, 30, .inl f15))]) hD hS hA [4, 1] rfl
              refine va_callv (va_runV (As := [.int (f14 (a2 : Int32).toNatClampNeg)]) (rest := []) ⟨hx, hb, hml, hown, hts⟩ (t11_push l dC dI H.size h0 ((f14 (a2 : Int32).toNatClampNeg)) qf0 qf1 v2 v3 v4 qf5 v6 v7 qf8 qf9 qf10 qf11 qf12 qf13 qf14 qf15 v16 v17 v18 0 v20 cf15 f15 nf g904_0 u4_1 u4_2 hu_4) (cwV 1 hts gv_h3_52 rfl rfl rfl (by decide +kernel) ⟨Nat.le_of_ble_eq_true rfl, Nat.le_of_ble_eq_true rfl⟩) ⟨fun a U g mk q => by obtain ⟨q0, q1, qP, qK, qD⟩ := q; exact ⟨q0, q1, qP, va_K.moved (u := U) (U := U.calling g mk a) (Vm.Alike.refl U.vm) qK, qD⟩, va_recv hKc hPc (ci := 11) (q0 := 0) rfl rfl, fun U hU hW => ⟨rfl, by rw [hU], by rw [hU]; exact hPc, va_K.moved hW.alike hKc, hDc.weaken (fun _ _ _ _ => trivial)⟩⟩ rfl rfl hl.1 rfl (lv_room (Nat.le_of_ble_eq_true rfl)) dX11_applyLocal_101 ⟨Nat.le_of_ble_eq_true rfl, Nat.le_of_ble_eq_true rfl⟩) hS (fun q _ h => hFc q h) hFc ?_
              clear hS
              intro u t H1 locs ht hvm hw hB hz1 hk1 hS
              obtain ⟨⟩ := u
              obtain ⟨hP1, hK1, hD1⟩ := hB
              rw [ht] at hP1
              have hK1 := va_K.moved hvm.symm hK1
              try dsimp only at hw
              have hPD := va_join (wr := [(qf14, .inl (cf14, 30, .inl f14)), (qf1, .inr (4, [.ref qf1_0, .ref qf1_1])), (qf1_1, .inl (cf1_1, 256, .inl f1_1)), (qf5, .inr (3, [.ref qf5_0, .int v5_1, .int v5_2, .int v5_3, .ref qf5_4, .ref qf5_5, .ref qf5_6, .int v5_7, .int v5_8, .int v5_9, .int v5_10, .ref qf5_11, .int v5_12, .ref qf5_13])), (qf5_13, .inl (cf5_13, 144, .inl f5_13))]) (w1 := [(h0, .inr (11, [.ref qf0, .ref qf1, .int v2, .int v3, .int v4, .ref qf5, .int v6, .int v7, .ref qf8, .ref qf9, .ref qf10, .ref qf11, .ref qf12, .ref qf13, .ref qf14, .ref qf15, .int v16, .int v17, .int u4_1, .int u4_2, .int v20])), (qf15, .inl (cf15, 30, .inl g904_0))]) hP hD [4, 1] [0, 2, 3, 5, 6] rfl rfl (by decide) (by decide) hk1 hFc hP1 hD1
              clear hP hD
              obtain ⟨hP, hD⟩ := hPD
              replace hK := (hK.sub (tys' := [(cf14, .int), (cf1_1, .boolean), (cf5_13, .int)]) [0, 2, 3] rfl).app hK1
              clear hPc hDc hKc hFc hP1 hK1 hD1 hz1 hk1 ht hvm
              generalize H1 = H at hP hS ⊢
              replace hP : va_P (dC, dI) vwCl [(qf14, .inl (cf14, 30, .inl f14)), (qf1, .inr (4, [.ref qf1_0, .ref qf1_1])), (qf1_1, .inl (cf1_1, 256, .inl f1_1)), (qf5, .inr (3, [.ref qf5_0, .int v5_1, .int v5_2, .int v5_3, .ref qf5_4, .ref qf5_5, .ref qf5_6, .int v5_7, .int v5_8, .int v5_9, .int v5_10, .ref qf5_11, .int v5_12, .ref qf5_13])), (qf5_13, .inl (cf5_13, 144, .inl f5_13)), (h0, .inr (11, [.ref qf0, .ref qf1, .int v2, .int v3, .int v4, .ref qf5, .int v6, .int v7, .ref qf8, .ref qf9, .ref qf10, .ref qf11, .ref qf12, .ref qf13, .ref qf14, .ref qf15, .int v16, .int v17, .int u4_1, .int u4_2, .int v20])), (qf15, .inl (cf15, 30, .inl g904_0))] H := hP
              replace hD : va_D A [(qf14, .inl (cf14, 30, .inl f14)), (qf1, .inr (4, [.ref qf1_0, .ref qf1_1])), (qf1_1, .inl (cf1_1, 256, .inl f1_1)), (qf5, .inr (3, [.ref qf5_0, .int v5_1, .int v5_2, .int v5_3, .ref qf5_4, .ref qf5_5, .ref qf5_6, .int v5_7, .int v5_8, .int v5_9, .int v5_10, .ref qf5_11, .int v5_12, .ref qf5_13])), (qf5_13, .inl (cf5_13, 144, .inl f5_13)), (h0, .inr (11, [.ref qf0, .ref qf1, .int v2, .int v3, .int v4, .ref qf5, .int v6, .int v7, .ref qf8, .ref qf9, .ref qf10, .ref qf11, .ref qf12, .ref qf13, .ref qf14, .ref qf15, .int v16, .int v17, .int u4_1, .int u4_2, .int v20])), (qf15, .inl (cf15, 30, .inl g904_0))] := hD
              replace hK : va_K (dC, dI) vwCl [(cf14, .int), (cf1_1, .boolean), (cf5_13, .int), (cf15, .int)] s := hK
              refine lv_goto (tgt := 142) hx hb dX11_applyLocal_104 (by decide) ?_
              have hr0 := Option.some.inj hsp
              clear hsp
              obtain ⟨hq0, hr1⟩ := Prod.mk.inj hr0
              clear hr0
              obtain ⟨hq1, hr2⟩ := Prod.mk.inj hr1
              clear hr1
              obtain ⟨hq2, hr3⟩ := Prod.mk.inj hr2
              clear hr2
              subst hq0
              subst hq1
              subst hq2
              subst hr3
              have hP9 := hP.sub (ws' := [(h0, .inr (11, [.ref qf0, .ref qf1, .int v2, .int v3, .int v4, .ref qf5, .int v6, .int v7, .ref qf8, .ref qf9, .ref qf10, .ref qf11, .ref qf12, .ref qf13, .ref qf14, .ref qf15, .int v16, .int v17, .int u4_1, .int u4_2, .int v20])), (qf5, .inr (3, [.ref qf5_0, .int v5_1, .int v5_2, .int v5_3, .ref qf5_4, .ref qf5_5, .ref qf5_6, .int v5_7, .int v5_8, .int v5_9, .int v5_10, .ref qf5_11, .int v5_12, .ref qf5_13])), (qf5_13, .inl (cf5_13, 144, .inl f5_13)), (qf14, .inl (cf14, 30, .inl f14)), (qf15, .inl (cf15, 30, .inl g904_0)), (qf1, .inr (4, [.ref qf1_0, .ref qf1_1])), (qf1_1, .inl (cf1_1, 256, .inl f1_1))]) [5, 3, 4, 0, 6, 1, 2] rfl
              have hD9 := hD.sub (ws' := [(h0, .inr (11, [.ref qf0, .ref qf1, .int v2, .int v3, .int v4, .ref qf5, .int v6, .int v7, .ref qf8, .ref qf9, .ref qf10, .ref qf11, .ref qf12, .ref qf13, .ref qf14, .ref qf15, .int v16, .int v17, .int u4_1, .int u4_2, .int v20])), (qf5, .inr (3, [.ref qf5_0, .int v5_1, .int v5_2, .int v5_3, .ref qf5_4, .ref qf5_5, .ref qf5_6, .int v5_7, .int v5_8, .int v5_9, .int v5_10, .ref qf5_11, .int v5_12, .ref qf5_13])), (qf5_13, .inl (cf5_13, 144, .inl f5_13)), (qf14, .inl (cf14, 30, .inl f14)), (qf15, .inl (cf15, 30, .inl g904_0)), (qf1, .inr (4, [.ref qf1_0, .ref qf1_1])), (qf1_1, .inl (cf1_1, 256, .inl f1_1))]) [5, 3, 4, 0, 6, 1, 2] (by decide) rfl
              have hK9 := hK.sub (tys' := [(cf5_13, .int), (cf14, .int), (cf15, .int), (cf1_1, .boolean)]) [2, 0, 3, 1] rfl
              exact W.vret hx hb hr (fun t ht hW => ⟨⟨(), rfl, trivial, by rw [ht]; exact hP9, va_K.moved hW.alike hK9, hD9⟩, hS.F ht⟩) hS.2.2 dX11_applyLocal_142
          · rw [if_neg (by decide)] at hsp
            refine lv_istore_n (lv' := [(3, .int 1), (0, .ref h0), (1, .int a1), (2, .int a2)]) hx hb dX11_applyLocal_73 rfl hl (by decide) rfl (fun ls hl => ?_)
            refine lv_aload_n hx hb dX11_applyLocal_74 rfl (lv_at hl 1 rfl) ?_
            refine lv_aload_n hx hb dX11_applyLocal_75 rfl (lv_at hl 1 rfl) ?_
            refine va_get (D := (dC, dI)) (ci := 11) (v := .int v19) (C := RX11) (T := TX11) (N := 21) hx hb hts uV_h3_X11 hown hK hP 4 rfl rfl 19 (by decide) (hts (.fieldLink RX11 295 "ClassMill$Verifier" "fitting" "Z") mw_h3_220) (fun _ h9 => h9) rfl dX11_applyLocal_76 ?_
            refine lv_if_eq (tgt := 90) hx hb dX11_applyLocal_79 (by decide) (fun c_12 => ?_) (fun c_12 => ?_)
            · rw [if_pos c_12] at hsp
              refine lv_iconst (v := 0) hx hb dX11_applyLocal_90 (by decide) ?_
              refine va_put (D := (dC, dI)) (ci := 11) (v := .int 0) (ty := .boolean) (C := RX11) (T := TX11) (N := 21) hx hb hts uV_h3_X11 tyX11 tyX11_ok nmX11 hown hK hP hD hS 4 rfl rfl 19 (by decide) (hts (.fieldLink RX11 295 "ClassMill$Verifier" "fitting" "Z") mw_h3_220) (fun _ h9 => h9) rfl (by decide +kernel) rfl rfl (Nat.le_of_ble_eq_true rfl) dX11_applyLocal_91 ?_
              clear hP hD hS
              intro H locs hP hD hS
              replace hP : va_P (dC, dI) vwCl [(qf14, .inl (cf14, 30, .inl f14)), (qf15, .inl (cf15, 30, .inl f15)), (qf1, .inr (4, [.ref qf1_0, .ref qf1_1])), (qf1_1, .inl (cf1_1, 256, .inl f1_1)), (h0, .inr (11, [.ref qf0, .ref qf1, .int v2, .int v3, .int v4, .ref qf5, .int v6, .int v7, .ref qf8, .ref qf9, .ref qf10, .ref qf11, .ref qf12, .ref qf13, .ref qf14, .ref qf15, .int v16, .int v17, .int v18, .int 0, .int v20])), (qf5, .inr (3, [.ref qf5_0, .int v5_1, .int v5_2, .int v5_3, .ref qf5_4, .ref qf5_5, .ref qf5_6, .int v5_7, .int v5_8, .int v5_9, .int v5_10, .ref qf5_11, .int v5_12, .ref qf5_13])), (qf5_13, .inl (cf5_13, 144, .inl f5_13))] H := hP
              replace hD : va_D A [(qf14, .inl (cf14, 30, .inl f14)), (qf15, .inl (cf15, 30, .inl f15)), (qf1, .inr (4, [.ref qf1_0, .ref qf1_1])), (qf1_1, .inl (cf1_1, 256, .inl f1_1)), (h0, .inr (11, [.ref qf0, .ref qf1, .int v2, .int v3, .int v4, .ref qf5, .int v6, .int v7, .ref qf8, .ref qf9, .ref qf10, .ref qf11, .ref qf12, .ref qf13, .ref qf14, .ref qf15, .int v16, .int v17, .int v18, .int 0, .int v20])), (qf5, .inr (3, [.ref qf5_0, .int v5_1, .int v5_2, .int v5_3, .ref qf5_4, .ref qf5_5, .ref qf5_6, .int v5_7, .int v5_8, .int v5_9, .int v5_10, .ref qf5_11, .int v5_12, .ref qf5_13])), (qf5_13, .inl (cf5_13, 144, .inl f5_13))] := hD
              refine lv_aload_n hx hb dX11_applyLocal_94 rfl (lv_at hl 1 rfl) ?_
              refine lv_aload_n hx hb dX11_applyLocal_95 rfl (lv_at hl 1 rfl) ?_
              refine va_get (D := (dC, dI)) (ci := 11) (v := .ref qf14) (C := RX11) (T := TX11) (N := 21) hx hb hts uV_h3_X11 hown hK hP 4 rfl rfl 14 (by decide) (hts (.fieldLink RX11 44 "ClassMill$Verifier" "locals" "[I") mw_h3_205) (fun _ h9 => h9) rfl dX11_applyLocal_96 ?_
              refine lv_iload_n hx hb dX11_applyLocal_99 rfl (lv_at hl 3 rfl) ?_
              obtain ⟨hi_13, hsp⟩ := ox_in hsp
              refine va_iald hx hb hK hP 0 0 rfl rfl (i := a2) hi_13 dX11_applyLocal_100 ?_
              obtain ⟨⟨g905_0, u5_1, u5_2⟩, hu_5, hsp⟩ := ox_bind hsp
              try dsimp only at hsp
              have hPc := hP.sub (ws' := [(h0, .inr (11, [.ref qf0, .ref qf1, .int v2, .int v3, .int v4, .ref qf5, .int v6, .int v7, .ref qf8, .ref qf9, .ref qf10, .ref qf11, .ref qf12, .ref qf13, .ref qf14, .ref qf15, .int v16, .int v17, .int v18, .int 0, .int v20])), (qf15, .inl (cf15, 30, .inl f15))]) [4, 1] rfl
              have hDc := hD.sub (ws' := [(h0, .inr (11, [.ref qf0, .ref qf1, .int v2, .int v3, .int v4, .ref qf5, .int v6, .int v7, .ref qf8, .ref qf9, .ref qf10, .ref qf11, .ref qf12, .ref qf13, .ref qf14, .ref qf15, .int v16, .int v17, .int v18, .int 0, .int v20])), (qf15, .inl (cf15, 30, .inl f15))]) [4, 1] (by decide) rfl
              have hKc := hK.sub (tys' := [(cf15, .int)]) [1] rfl
              have hFc := va_free (wc := [(h0, .inr (11, [.ref qf0, .ref qf1, .int v2, .int v3, .int v4, .ref qf5, .int v6, .int v7, .ref qf8, .ref qf9, .ref qf10, .ref qf11, .ref qf12, .ref qf13, .ref qf14, .ref qf15, .int v16, .int v17, .int v18, .int 0, .int v20])), (qf15, .inl (cf15, 30, .inl f15))]) hD hS hA [4, 1] rfl
              refine va_callv (va_runV (As := [.int (f14 (a2 : Int32).toNatClampNeg)]) (rest := []) ⟨hx, hb, hml, hown, hts⟩ (t11_push l dC dI H.size h0 ((f14 (a2 : Int32).toNatClampNeg)) qf0 qf1 v2 v3 v4 qf5 v6 v7 qf8 qf9 qf10 qf11 qf12 qf13 qf14 qf15 v16 v17 v18 0 v20 cf15 f15 nf g905_0 u5_1 u5_2 hu_5) (cwV 1 hts gv_h3_52 rfl rfl rfl (by decide +kernel) ⟨Nat.le_of_ble_eq_true rfl, Nat.le_of_ble_eq_true rfl⟩) ⟨fun a U g mk q => by obtain ⟨q0, q1, qP, qK, qD⟩ := q; exact ⟨q0, q1, qP, va_K.moved (u := U) (U := U.calling g mk a) (Vm.Alike.refl U.vm) qK, qD⟩, va_recv hKc hPc (ci := 11) (q0 := 0) rfl rfl, fun U hU hW => ⟨rfl, by rw [hU], by rw [hU]; exact hPc, va_K.moved hW.alike hKc, hDc.weaken (fun _ _ _ _ => trivial)⟩⟩ rfl rfl hl.1 rfl (lv_room (Nat.le_of_ble_eq_true rfl)) dX11_applyLocal_101 ⟨Nat.le_of_ble_eq_true rfl, Nat.le_of_ble_eq_true rfl⟩) hS (fun q _ h => hFc q h) hFc ?_
              clear hS
              intro u t H1 locs ht hvm hw hB hz1 hk1 hS
              obtain ⟨⟩ := u
              obtain ⟨hP1, hK1, hD1⟩ := hB
              rw [ht] at hP1
              have hK1 := va_K.moved hvm.symm hK1
              try dsimp only at hw
              have hPD := va_join (wr := [(qf14, .inl (cf14, 30, .inl f14)), (qf1, .inr (4, [.ref qf1_0, .ref qf1_1])), (qf1_1, .inl (cf1_1, 256, .inl f1_1)), (qf5, .inr (3, [.ref qf5_0, .int v5_1, .int v5_2, .int v5_3, .ref qf5_4, .ref qf5_5, .ref qf5_6, .int v5_7, .int v5_8, .int v5_9, .int v5_10, .ref qf5_11, .int v5_12, .ref qf5_13])), (qf5_13, .inl (cf5_13, 144, .inl f5_13))]) (w1 := [(h0, .inr (11, [.ref qf0, .ref qf1, .int v2, .int v3, .int v4, .ref qf5, .int v6, .int v7, .ref qf8, .ref qf9, .ref qf10, .ref qf11, .ref qf12, .ref qf13, .ref qf14, .ref qf15, .int v16, .int v17, .int u5_1, .int u5_2, .int v20])), (qf15, .inl (cf15, 30, .inl g905_0))]) hP hD [4, 1] [0, 2, 3, 5, 6] rfl rfl (by decide) (by decide) hk1 hFc hP1 hD1
              clear hP hD
              obtain ⟨hP, hD⟩ := hPD
              replace hK := (hK.sub (tys' := [(cf14, .int), (cf1_1, .boolean), (cf5_13, .int)]) [0, 2, 3] rfl).app hK1
              clear hPc hDc hKc hFc hP1 hK1 hD1 hz1 hk1 ht hvm
              generalize H1 = H at hP hS ⊢
              replace hP : va_P (dC, dI) vwCl [(qf14, .inl (cf14, 30, .inl f14)), (qf1, .inr (4, [.ref qf1_0, .ref qf1_1])), (qf1_1, .inl (cf1_1, 256, .inl f1_1)), (qf5, .inr (3, [.ref qf5_0, .int v5_1, .int v5_2, .int v5_3, .ref qf5_4, .ref qf5_5, .ref qf5_6, .int v5_7, .int v5_8, .int v5_9, .int v5_10, .ref qf5_11, .int v5_12, .ref qf5_13])), (qf5_13, .inl (cf5_13, 144, .inl f5_13)), (h0, .inr (11, [.ref qf0, .ref qf1, .int v2, .int v3, .int v4, .ref qf5, .int v6, .int v7, .ref qf8, .ref qf9, .ref qf10, .ref qf11, .ref qf12, .ref qf13, .ref qf14, .ref qf15, .int v16, .int v17, .int u5_1, .int u5_2, .int v20])), (qf15, .inl (cf15, 30, .inl g905_0))] H := hP
              replace hD : va_D A [(qf14, .inl (cf14, 30, .inl f14)), (qf1, .inr (4, [.ref qf1_0, .ref qf1_1])), (qf1_1, .inl (cf1_1, 256, .inl f1_1)), (qf5, .inr (3, [.ref qf5_0, .int v5_1, .int v5_2, .int v5_3, .ref qf5_4, .ref qf5_5, .ref qf5_6, .int v5_7, .int v5_8, .int v5_9, .int v5_10, .ref qf5_11, .int v5_12, .ref qf5_13])), (qf5_13, .inl (cf5_13, 144, .inl f5_13)), (h0, .inr (11, [.ref qf0, .ref qf1, .int v2, .int v3, .int v4, .ref qf5, .int v6, .int v7, .ref qf8, .ref qf9, .ref qf10, .ref qf11, .ref qf12, .ref qf13, .ref qf14, .ref qf15, .int v16, .int v17, .int u5_1, .int u5_2, .int v20])), (qf15, .inl (cf15, 30, .inl g905_0))] := hD
              replace hK : va_K (dC, dI) vwCl [(cf14, .int), (cf1_1, .boolean), (cf5_13, .int), (cf15, .int)] s := hK
              refine lv_goto (tgt := 142) hx hb dX11_applyLocal_104 (by decide) ?_
              have hr0 := Option.some.inj hsp
              clear hsp
              obtain ⟨hq0, hr1⟩ := Prod.mk.inj hr0
              clear hr0
              obtain ⟨hq1, hr2⟩ := Prod.mk.inj hr1
              clear hr1
              obtain ⟨hq2, hr3⟩ := Prod.mk.inj hr2
              clear hr2
              subst hq0
              subst hq1
              subst hq2
              subst hr3
              have hP9 := hP.sub (ws' := [(h0, .inr (11, [.ref qf0, .ref qf1, .int v2, .int v3, .int v4, .ref qf5, .int v6, .int v7, .ref qf8, .ref qf9, .ref qf10, .ref qf11, .ref qf12, .ref qf13, .ref qf14, .ref qf15, .int v16, .int v17, .int u5_1, .int u5_2, .int v20])), (qf5, .inr (3, [.ref qf5_0, .int v5_1, .int v5_2, .int v5_3, .ref qf5_4, .ref qf5_5, .ref qf5_6, .int v5_7, .int v5_8, .int v5_9, .int v5_10, .ref qf5_11, .int v5_12, .ref qf5_13])), (qf5_13, .inl (cf5_13, 144, .inl f5_13)), (qf14, .inl (cf14, 30, .inl f14)), (qf15, .inl (cf15, 30, .inl g905_0)), (qf1, .inr (4, [.ref qf1_0, .ref qf1_1])), (qf1_1, .inl (cf1_1, 256, .inl f1_1))]) [5, 3, 4, 0, 6, 1, 2] rfl
              have hD9 := hD.sub (ws' := [(h0, .inr (11, [.ref qf0, .ref qf1, .int v2, .int v3, .int v4, .ref qf5, .int v6, .int v7, .ref qf8, .ref qf9, .ref qf10, .ref qf11, .ref qf12, .ref qf13, .ref qf14, .ref qf15, .int v16, .int v17, .int u5_1, .int u5_2, .int v20])), (qf5, .inr (3, [.ref qf5_0, .int v5_1, .int v5_2, .int v5_3, .ref qf5_4, .ref qf5_5, .ref qf5_6, .int v5_7, .int v5_8, .int v5_9, .int v5_10, .ref qf5_11, .int v5_12, .ref qf5_13])), (qf5_13, .inl (cf5_13, 144, .inl f5_13)), (qf14, .inl (cf14, 30, .inl f14)), (qf15, .inl (cf15, 30, .inl g905_0)), (qf1, .inr (4, [.ref qf1_0, .ref qf1_1])), (qf1_1, .inl (cf1_1, 256, .inl f1_1))]) [5, 3, 4, 0, 6, 1, 2] (by decide) rfl
              have hK9 := hK.sub (tys' := [(cf5_13, .int), (cf14, .int), (cf15, .int), (cf1_1, .boolean)]) [2, 0, 3, 1] rfl
              exact W.vret hx hb hr (fun t ht hW => ⟨⟨(), rfl, trivial, by rw [ht]; exact hP9, va_K.moved hW.alike hK9, hD9⟩, hS.F ht⟩) hS.2.2 dX11_applyLocal_142
            · rw [if_neg c_12] at hsp
              refine lv_iload_n hx hb dX11_applyLocal_82 rfl (lv_at hl 0 rfl) ?_
              refine lv_if_eq (tgt := 90) hx hb dX11_applyLocal_83 (by decide) (fun c_14 => (show False by revert c_14; decide).elim) (fun c_14 => ?_)
              refine lv_iconst (v := 1) hx hb dX11_applyLocal_86 (by decide) ?_
              refine lv_goto (tgt := 91) hx hb dX11_applyLocal_87 (by decide) ?_
              refine va_put (D := (dC, dI)) (ci := 11) (v := .int 1) (ty := .boolean) (C := RX11) (T := TX11) (N := 21) hx hb hts uV_h3_X11 tyX11 tyX11_ok nmX11 hown hK hP hD hS 4 rfl rfl 19 (by decide) (hts (.fieldLink RX11 295 "ClassMill$Verifier" "fitting" "Z") mw_h3_220) (fun _ h9 => h9) rfl (by decide +kernel) rfl rfl (Nat.le_of_ble_eq_true rfl) dX11_applyLocal_91 ?_
              clear hP hD hS
              intro H locs hP hD hS
              replace hP : va_P (dC, dI) vwCl [(qf14, .inl (cf14, 30, .inl f14)), (qf15, .inl (cf15, 30, .inl f15)), (qf1, .inr (4, [.ref qf1_0, .ref qf1_1])), (qf1_1, .inl (cf1_1, 256, .inl f1_1)), (h0, .inr (11, [.ref qf0, .ref qf1, .int v2, .int v3, .int v4, .ref qf5, .int v6, .int v7, .ref qf8, .ref qf9, .ref qf10, .ref qf11, .ref qf12, .ref qf13, .ref qf14, .ref qf15, .int v16, .int v17, .int v18, .int 1, .int v20])), (qf5, .inr (3, [.ref qf5_0, .int v5_1, .int v5_2, .int v5_3, .ref qf5_4, .ref qf5_5, .ref qf5_6, .int v5_7, .int v5_8, .int v5_9, .int v5_10, .ref qf5_11, .int v5_12, .ref qf5_13])), (qf5_13, .inl (cf5_13, 144, .inl f5_13))] H := hP
              replace hD : va_D A [(qf14, .inl (cf14, 30, .inl f14)), (qf15, .inl (cf15, 30, .inl f15)), (qf1, .inr (4, [.ref qf1_0, .ref qf1_1])), (qf1_1, .inl (cf1_1, 256, .inl f1_1)), (h0, .inr (11, [.ref qf0, .ref qf1, .int v2, .int v3, .int v4, .ref qf5, .int v6, .int v7, .ref qf8, .ref qf9, .ref qf10, .ref qf11, .ref qf12, .ref qf13, .ref qf14, .ref qf15, .int v16, .int v17, .int v18, .int 1, .int v20])), (qf5, .inr (3, [.ref qf5_0, .int v5_1, .int v5_2, .int v5_3, .ref qf5_4, .ref qf5_5, .ref qf5_6, .int v5_7, .int v5_8, .int v5_9, .int v5_10, .ref qf5_11, .int v5_12, .ref qf5_13])), (qf5_13, .inl (cf5_13, 144, .inl f5_13))] := hD
              refine lv_aload_n hx hb dX11_applyLocal_94 rfl (lv_at hl 1 rfl) ?_
              refine lv_aload_n hx hb dX11_applyLocal_95 rfl (lv_at hl 1 rfl) ?_
              refine va_get (D := (dC, dI)) (ci := 11) (v := .ref qf14) (C := RX11) (T := TX11) (N := 21) hx hb hts uV_h3_X11 hown hK hP 4 rfl rfl 14 (by decide) (hts (.fieldLink RX11 44 "ClassMill$Verifier" "locals" "[I") mw_h3_205) (fun _ h9 => h9) rfl dX11_applyLocal_96 ?_
              refine lv_iload_n hx hb dX11_applyLocal_99 rfl (lv_at hl 3 rfl) ?_
              obtain ⟨hi_15, hsp⟩ := ox_in hsp
              refine va_iald hx hb hK hP 0 0 rfl rfl (i := a2) hi_15 dX11_applyLocal_100 ?_
              obtain ⟨⟨g906_0, u6_1, u6_2⟩, hu_6, hsp⟩ := ox_bind hsp
              try dsimp only at hsp
              have hPc := hP.sub (ws' := [(h0, .inr (11, [.ref qf0, .ref qf1, .int v2, .int v3, .int v4, .ref qf5, .int v6, .int v7, .ref qf8, .ref qf9, .ref qf10, .ref qf11, .ref qf12, .ref qf13, .ref qf14, .ref qf15, .int v16, .int v17, .int v18, .int 1, .int v20])), (qf15, .inl (cf15, 30, .inl f15))]) [4, 1] rfl
              have hDc := hD.sub (ws' := [(h0, .inr (11, [.ref qf0, .ref qf1, .int v2, .int v3, .int v4, .ref qf5, .int v6, .int v7, .ref qf8, .ref qf9, .ref qf10, .ref qf11, .ref qf12, .ref qf13, .ref qf14, .ref qf15, .int v16, .int v17, .int v18, .int 1, .int v20])), (qf15, .inl (cf15, 30, .inl f15))]) [4, 1] (by decide) rfl
              have hKc := hK.sub (tys' := [(cf15, .int)]) [1] rfl
              have hFc := va_free (wc := [(h0, .inr (11, [.ref qf0, .ref qf1, .int v2, .int v3, .int v4, .ref qf5, .int v6, .int v7, .ref qf8, .ref qf9, .ref qf10, .ref qf11, .ref qf12, .ref qf13, .ref qf14, .ref qf15, .int v16, .int v17, .int v18, .int 1, .int v20])), (qf15, .inl (cf15, 30, .inl f15))]) hD hS hA [4, 1] rfl
              refine va_callv (va_runV (As := [.int (f14 (a2 : Int32).toNatClampNeg)]) (rest := []) ⟨hx, hb, hml, hown, hts⟩ (t11_push l dC dI H.size h0 ((f14 (a2 : Int32).toNatClampNeg)) qf0 qf1 v2 v3 v4 qf5 v6 v7 qf8 qf9 qf10 qf11 qf12 qf13 qf14 qf15 v16 v17 v18 1 v20 cf15 f15 nf g906_0 u6_1 u6_2 hu_6) (cwV 1 hts gv_h3_52 rfl rfl rfl (by decide +kernel) ⟨Nat.le_of_ble_eq_true rfl, Nat.le_of_ble_eq_true rfl⟩) ⟨fun a U g mk q => by obtain ⟨q0, q1, qP, qK, qD⟩ := q; exact ⟨q0, q1, qP, va_K.moved (u := U) (U := U.calling g mk a) (Vm.Alike.refl U.vm) qK, qD⟩, va_recv hKc hPc (ci := 11) (q0 := 0) rfl rfl, fun U hU hW => ⟨rfl, by rw [hU], by rw [hU]; exact hPc, va_K.moved hW.alike hKc, hDc.weaken (fun _ _ _ _ => trivial)⟩⟩ rfl rfl hl.1 rfl (lv_room (Nat.le_of_ble_eq_true rfl)) dX11_applyLocal_101 ⟨Nat.le_of_ble_eq_true rfl, Nat.le_of_ble_eq_true rfl⟩) hS (fun q _ h => hFc q h) hFc ?_
              clear hS
              intro u t H1 locs ht hvm hw hB hz1 hk1 hS
              obtain ⟨⟩ := u
              obtain ⟨hP1, hK1, hD1⟩ := hB
              rw [ht] at hP1
              have hK1 := va_K.moved hvm.symm hK1
              try dsimp only at hw
              have hPD := va_join (wr := [(qf14, .inl (cf14, 30, .inl f14)), (qf1, .inr (4, [.ref qf1_0, .ref qf1_1])), (qf1_1, .inl (cf1_1, 256, .inl f1_1)), (qf5, .inr (3, [.ref qf5_0, .int v5_1, .int v5_2, .int v5_3, .ref qf5_4, .ref qf5_5, .ref qf5_6, .int v5_7, .int v5_8, .int v5_9, .int v5_10, .ref qf5_11, .int v5_12, .ref qf5_13])), (qf5_13, .inl (cf5_13, 144, .inl f5_13))]) (w1 := [(h0, .inr (11, [.ref qf0, .ref qf1, .int v2, .int v3, .int v4, .ref qf5, .int v6, .int v7, .ref qf8, .ref qf9, .ref qf10, .ref qf11, .ref qf12, .ref qf13, .ref qf14, .ref qf15, .int v16, .int v17, .int u6_1, .int u6_2, .int v20])), (qf15, .inl (cf15, 30, .inl g906_0))]) hP hD [4, 1] [0, 2, 3, 5, 6] rfl rfl (by decide) (by decide) hk1 hFc hP1 hD1
              clear hP hD
              obtain ⟨hP, hD⟩ := hPD
              replace hK := (hK.sub (tys' := [(cf14, .int), (cf1_1, .boolean), (cf5_13, .int)]) [0, 2, 3] rfl).app hK1
              clear hPc hDc hKc hFc hP1 hK1 hD1 hz1 hk1 ht hvm
              generalize H1 = H at hP hS ⊢
              replace hP : va_P (dC, dI) vwCl [(qf14, .inl (cf14, 30, .inl f14)), (qf1, .inr (4, [.ref qf1_0, .ref qf1_1])), (qf1_1, .inl (cf1_1, 256, .inl f1_1)), (qf5, .inr (3, [.ref qf5_0, .int v5_1, .int v5_2, .int v5_3, .ref qf5_4, .ref qf5_5, .ref qf5_6, .int v5_7, .int v5_8, .int v5_9, .int v5_10, .ref qf5_11, .int v5_12, .ref qf5_13])), (qf5_13, .inl (cf5_13, 144, .inl f5_13)), (h0, .inr (11, [.ref qf0, .ref qf1, .int v2, .int v3, .int v4, .ref qf5, .int v6, .int v7, .ref qf8, .ref qf9, .ref qf10, .ref qf11, .ref qf12, .ref qf13, .ref qf14, .ref qf15, .int v16, .int v17, .int u6_1, .int u6_2, .int v20])), (qf15, .inl (cf15, 30, .inl g906_0))] H := hP
              replace hD : va_D A [(qf14, .inl (cf14, 30, .inl f14)), (qf1, .inr (4, [.ref qf1_0, .ref qf1_1])), (qf1_1, .inl (cf1_1, 256, .inl f1_1)), (qf5, .inr (3, [.ref qf5_0, .int v5_1, .int v5_2, .int v5_3, .ref qf5_4, .ref qf5_5, .ref qf5_6, .int v5_7, .int v5_8, .int v5_9, .int v5_10, .ref qf5_11, .int v5_12, .ref qf5_13])), (qf5_13, .inl (cf5_13, 144, .inl f5_13)), (h0, .inr (11, [.ref qf0, .ref qf1, .int v2, .int v3, .int v4, .ref qf5, .int v6, .int v7, .ref qf8, .ref qf9, .ref qf10, .ref qf11, .ref qf12, .ref qf13, .ref qf14, .ref qf15, .int v16, .int v17, .int u6_1, .int u6_2, .int v20])), (qf15, .inl (cf15, 30, .inl g906_0))] := hD
              replace hK : va_K (dC, dI) vwCl [(cf14, .int), (cf1_1, .boolean), (cf5_13, .int), (cf15, .int)] s := hK
              refine lv_goto (tgt := 142) hx hb dX11_applyLocal_104 (by decide) ?_
              have hr0 := Option.some.inj hsp
              clear hsp
              obtain ⟨hq0, hr1⟩ := Prod.mk.inj hr0
              clear hr0
              obtain ⟨hq1, hr2⟩ := Prod.mk.inj hr1
              clear hr1
              obtain ⟨hq2, hr3⟩ := Prod.mk.inj hr2
              clear hr2
              subst hq0
              subst hq1
              subst hq2
              subst hr3
              have hP9 := hP.sub (ws' := [(h0, .inr (11, [.ref qf0, .ref qf1, .int v2, .int v3, .int v4, .ref qf5, .int v6, .int v7, .ref qf8, .ref qf9, .ref qf10, .ref qf11, .ref qf12, .ref qf13, .ref qf14, .ref qf15, .int v16, .int v17, .int u6_1, .int u6_2, .int v20])), (qf5, .inr (3, [.ref qf5_0, .int v5_1, .int v5_2, .int v5_3, .ref qf5_4, .ref qf5_5, .ref qf5_6, .int v5_7, .int v5_8, .int v5_9, .int v5_10, .ref qf5_11, .int v5_12, .ref qf5_13])), (qf5_13, .inl (cf5_13, 144, .inl f5_13)), (qf14, .inl (cf14, 30, .inl f14)), (qf15, .inl (cf15, 30, .inl g906_0)), (qf1, .inr (4, [.ref qf1_0, .ref qf1_1])), (qf1_1, .inl (cf1_1, 256, .inl f1_1))]) [5, 3, 4, 0, 6, 1, 2] rfl
              have hD9 := hD.sub (ws' := [(h0, .inr (11, [.ref qf0, .ref qf1, .int v2, .int v3, .int v4, .ref qf5, .int v6, .int v7, .ref qf8, .ref qf9, .ref qf10, .ref qf11, .ref qf12, .ref qf13, .ref qf14, .ref qf15, .int v16, .int v17, .int u6_1, .int u6_2, .int v20])), (qf5, .inr (3, [.ref qf5_0, .int v5_1, .int v5_2, .int v5_3, .ref qf5_4, .ref qf5_5, .ref qf5_6, .int v5_7, .int v5_8, .int v5_9, .int v5_10, .ref qf5_11, .int v5_12, .ref qf5_13])), (qf5_13, .inl (cf5_13, 144, .inl f5_13)), (qf14, .inl (cf14, 30, .inl f14)), (qf15, .inl (cf15, 30, .inl g906_0)), (qf1, .inr (4, [.ref qf1_0, .ref qf1_1])), (qf1_1, .inl (cf1_1, 256, .inl f1_1))]) [5, 3, 4, 0, 6, 1, 2] (by decide) rfl
              have hK9 := hK.sub (tys' := [(cf5_13, .int), (cf14, .int), (cf15, .int), (cf1_1, .boolean)]) [2, 0, 3, 1] rfl
              exact W.vret hx hb hr (fun t ht hW => ⟨⟨(), rfl, trivial, by rw [ht]; exact hP9, va_K.moved hW.alike hK9, hD9⟩, hS.F ht⟩) hS.2.2 dX11_applyLocal_142
        · rw [if_pos c_5] at hsp
          refine lv_aload_n hx hb dX11_applyLocal_44 rfl (lv_at hl 0 rfl) ?_
          refine va_get (D := (dC, dI)) (ci := 11) (v := .ref qf14) (C := RX11) (T := TX11) (N := 21) hx hb hts uV_h3_X11 hown hK hP 4 rfl rfl 14 (by decide) (hts (.fieldLink RX11 44 "ClassMill$Verifier" "locals" "[I") mw_h3_205) (fun _ h9 => h9) rfl dX11_applyLocal_45 ?_
          refine lv_iload_n hx hb dX11_applyLocal_48 rfl (lv_at hl 2 rfl) ?_
          obtain ⟨hi_16, hsp⟩ := ox_in hsp
          refine va_iald hx hb hK hP 0 0 rfl rfl (i := a2) hi_16 dX11_applyLocal_49 ?_
          refine lv_sipush (v := 301) hx hb dX11_applyLocal_50 (by decide) ?_
          refine lv_icmp_ne (tgt := 60) hx hb dX11_applyLocal_53 (by decide) (fun c_17 => ?_) (fun c_17 => ?_)
          · rw [if_neg c_17] at hsp
            refine lv_iconst (v := 0) hx hb dX11_applyLocal_60 (by decide) ?_
            refine lv_goto (tgt := 73) hx hb dX11_applyLocal_61 (by decide) ?_
            refine lv_istore_n (lv' := [(3, .int 0), (0, .ref h0), (1, .int a1), (2, .int a2)]) hx hb dX11_applyLocal_73 rfl hl (by decide) rfl (fun ls hl => ?_)
            refine lv_aload_n hx hb dX11_applyLocal_74 rfl (lv_at hl 1 rfl) ?_
            refine lv_aload_n hx hb dX11_applyLocal_75 rfl (lv_at hl 1 rfl) ?_
            refine va_get (D := (dC, dI)) (ci := 11) (v := .int v19) (C := RX11) (T := TX11) (N := 21) hx hb hts uV_h3_X11 hown hK hP 4 rfl rfl 19 (by decide) (hts (.fieldLink RX11 295 "ClassMill$Verifier" "fitting" "Z") mw_h3_220) (fun _ h9 => h9) rfl dX11_applyLocal_76 ?_
            refine lv_if_eq (tgt := 90) hx hb dX11_applyLocal_79 (by decide) (fun c_18 => ?_) (fun c_18 => ?_)
            · rw [if_pos c_18] at hsp
              refine lv_iconst (v := 0) hx hb dX11_applyLocal_90 (by decide) ?_
              refine va_put (D := (dC, dI)) (ci := 11) (v := .int 0) (ty := .boolean) (C := RX11) (T := TX11) (N := 21) hx hb hts uV_h3_X11 tyX11 tyX11_ok nmX11 hown hK hP hD hS 4 rfl rfl 19 (by decide) (hts (.fieldLink RX11 295 "ClassMill$Verifier" "fitting" "Z") mw_h3_220) (fun _ h9 => h9) rfl (by decide +kernel) rfl rfl (Nat.le_of_ble_eq_true rfl) dX11_applyLocal_91 ?_
              clear hP hD hS
              intro H locs hP hD hS
              replace hP : va_P (dC, dI) vwCl [(qf14, .inl (cf14, 30, .inl f14)), (qf15, .inl (cf15, 30, .inl f15)), (qf1, .inr (4, [.ref qf1_0, .ref qf1_1])), (qf1_1, .inl (cf1_1, 256, .inl f1_1)), (h0, .inr (11, [.ref qf0, .ref qf1, .int v2, .int v3, .int v4, .ref qf5, .int v6, .int v7, .ref qf8, .ref qf9, .ref qf10, .ref qf11, .ref qf12, .ref qf13, .ref qf14, .ref qf15, .int v16, .int v17, .int v18, .int 0, .int v20])), (qf5, .inr (3, [.ref qf5_0, .int v5_1, .int v5_2, .int v5_3, .ref qf5_4, .ref qf5_5, .ref qf5_6, .int v5_7, .int v5_8, .int v5_9, .int v5_10, .ref qf5_11, .int v5_12, .ref qf5_13])), (qf5_13, .inl (cf5_13, 144, .inl f5_13))] H := hP
              replace hD : va_D A [(qf14, .inl (cf14, 30, .inl f14)), (qf15, .inl (cf15, 30, .inl f15)), (qf1, .inr (4, [.ref qf1_0, .ref qf1_1])), (qf1_1, .inl (cf1_1, 256, .inl f1_1)), (h0, .inr (11, [.ref qf0, .ref qf1, .int v2, .int v3, .int v4, .ref qf5, .int v6, .int v7, .ref qf8, .ref qf9, .ref qf10, .ref qf11, .ref qf12, .ref qf13, .ref qf14, .ref qf15, .int v16, .int v17, .int v18, .int 0, .int v20])), (qf5, .inr (3, [.ref qf5_0, .int v5_1, .int v5_2, .int v5_3, .ref qf5_4, .ref qf5_5, .ref qf5_6, .int v5_7, .int v5_8, .int v5_9, .int v5_10, .ref qf5_11, .int v5_12, .ref qf5_13])), (qf5_13, .inl (cf5_13, 144, .inl f5_13))] := hD
              refine lv_aload_n hx hb dX11_applyLocal_94 rfl (lv_at hl 1 rfl) ?_
              refine lv_aload_n hx hb dX11_applyLocal_95 rfl (lv_at hl 1 rfl) ?_
              refine va_get (D := (dC, dI)) (ci := 11) (v := .ref qf14) (C := RX11) (T := TX11) (N := 21) hx hb hts uV_h3_X11 hown hK hP 4 rfl rfl 14 (by decide) (hts (.fieldLink RX11 44 "ClassMill$Verifier" "locals" "[I") mw_h3_205) (fun _ h9 => h9) rfl dX11_applyLocal_96 ?_
              refine lv_iload_n hx hb dX11_applyLocal_99 rfl (lv_at hl 3 rfl) ?_
              obtain ⟨hi_19, hsp⟩ := ox_in hsp
              refine va_iald hx hb hK hP 0 0 rfl rfl (i := a2) hi_19 dX11_applyLocal_100 ?_
              obtain ⟨⟨g907_0, u7_1, u7_2⟩, hu_7, hsp⟩ := ox_bind hsp
              try dsimp only at hsp
              have hPc := hP.sub (ws' := [(h0, .inr (11, [.ref qf0, .ref qf1, .int v2, .int v3, .int v4, .ref qf5, .int v6, .int v7, .ref qf8, .ref qf9, .ref qf10, .ref qf11, .ref qf12, .ref qf13, .ref qf14, .ref qf15, .int v16, .int v17, .int v18, .int 0, .int v20])), (qf15, .inl (cf15, 30, .inl f15))]) [4, 1] rfl
              have hDc := hD.sub (ws' := [(h0, .inr (11, [.ref qf0, .ref qf1, .int v2, .int v3, .int v4, .ref qf5, .int v6, .int v7, .ref qf8, .ref qf9, .ref qf10, .ref qf11, .ref qf12, .ref qf13, .ref qf14, .ref qf15, .int v16, .int v17, .int v18, .int 0, .int v20])), (qf15, .inl (cf15, 30, .inl f15))]) [4, 1] (by decide) rfl
              have hKc := hK.sub (tys' := [(cf15, .int)]) [1] rfl
              have hFc := va_free (wc := [(h0, .inr (11, [.ref qf0, .ref qf1, .int v2, .int v3, .int v4, .ref qf5, .int v6, .int v7, .ref qf8, .ref qf9, .ref qf10, .ref qf11, .ref qf12, .ref qf13, .ref qf14, .ref qf15, .int v16, .int v17, .int v18, .int 0, .int v20])), (qf15, .inl (cf15, 30, .inl f15))]) hD hS hA [4, 1] rfl
              refine va_callv (va_runV (As := [.int (f14 (a2 : Int32).toNatClampNeg)]) (rest := []) ⟨hx, hb, hml, hown, hts⟩ (t11_push l dC dI H.size h0 ((f14 (a2 : Int32).toNatClampNeg)) qf0 qf1 v2 v3 v4 qf5 v6 v7 qf8 qf9 qf10 qf11 qf12 qf13 qf14 qf15 v16 v17 v18 0 v20 cf15 f15 nf g907_0 u7_1 u7_2 hu_7) (cwV 1 hts gv_h3_52 rfl rfl rfl (by decide +kernel) ⟨Nat.le_of_ble_eq_true rfl, Nat.le_of_ble_eq_true rfl⟩) ⟨fun a U g mk q => by obtain ⟨q0, q1, qP, qK, qD⟩ := q; exact ⟨q0, q1, qP, va_K.moved (u := U) (U := U.calling g mk a) (Vm.Alike.refl U.vm) qK, qD⟩, va_recv hKc hPc (ci := 11) (q0 := 0) rfl rfl, fun U hU hW => ⟨rfl, by rw [hU], by rw [hU]; exact hPc, va_K.moved hW.alike hKc, hDc.weaken (fun _ _ _ _ => trivial)⟩⟩ rfl rfl hl.1 rfl (lv_room (Nat.le_of_ble_eq_true rfl)) dX11_applyLocal_101 ⟨Nat.le_of_ble_eq_true rfl, Nat.le_of_ble_eq_true rfl⟩) hS (fun q _ h => hFc q h) hFc ?_
              clear hS
              intro u t H1 locs ht hvm hw hB hz1 hk1 hS
              obtain ⟨⟩ := u
              obtain ⟨hP1, hK1, hD1⟩ := hB
              rw [ht] at hP1
              have hK1 := va_K.moved hvm.symm hK1
              try dsimp only at hw
              have hPD := va_join (wr := [(qf14, .inl (cf14, 30, .inl f14)), (qf1, .inr (4, [.ref qf1_0, .ref qf1_1])), (qf1_1, .inl (cf1_1, 256, .inl f1_1)), (qf5, .inr (3, [.ref qf5_0, .int v5_1, .int v5_2, .int v5_3, .ref qf5_4, .ref qf5_5, .ref qf5_6, .int v5_7, .int v5_8, .int v5_9, .int v5_10, .ref qf5_11, .int v5_12, .ref qf5_13])), (qf5_13, .inl (cf5_13, 144, .inl f5_13))]) (w1 := [(h0, .inr (11, [.ref qf0, .ref qf1, .int v2, .int v3, .int v4, .ref qf5, .int v6, .int v7, .ref qf8, .ref qf9, .ref qf10, .ref qf11, .ref qf12, .ref qf13, .ref qf14, .ref qf15, .int v16, .int v17, .int u7_1, .int u7_2, .int v20])), (qf15, .inl (cf15, 30, .inl g907_0))]) hP hD [4, 1] [0, 2, 3, 5, 6] rfl rfl (by decide) (by decide) hk1 hFc hP1 hD1
              clear hP hD
              obtain ⟨hP, hD⟩ := hPD
              replace hK := (hK.sub (tys' := [(cf14, .int), (cf1_1, .boolean), (cf5_13, .int)]) [0, 2, 3] rfl).app hK1
              clear hPc hDc hKc hFc hP1 hK1 hD1 hz1 hk1 ht hvm
              generalize H1 = H at hP hS ⊢
              replace hP : va_P (dC, dI) vwCl [(qf14, .inl (cf14, 30, .inl f14)), (qf1, .inr (4, [.ref qf1_0, .ref qf1_1])), (qf1_1, .inl (cf1_1, 256, .inl f1_1)), (qf5, .inr (3, [.ref qf5_0, .int v5_1, .int v5_2, .int v5_3, .ref qf5_4, .ref qf5_5, .ref qf5_6, .int v5_7, .int v5_8, .int v5_9, .int v5_10, .ref qf5_11, .int v5_12, .ref qf5_13])), (qf5_13, .inl (cf5_13, 144, .inl f5_13)), (h0, .inr (11, [.ref qf0, .ref qf1, .int v2, .int v3, .int v4, .ref qf5, .int v6, .int v7, .ref qf8, .ref qf9, .ref qf10, .ref qf11, .ref qf12, .ref qf13, .ref qf14, .ref qf15, .int v16, .int v17, .int u7_1, .int u7_2, .int v20])), (qf15, .inl (cf15, 30, .inl g907_0))] H := hP
              replace hD : va_D A [(qf14, .inl (cf14, 30, .inl f14)), (qf1, .inr (4, [.ref qf1_0, .ref qf1_1])), (qf1_1, .inl (cf1_1, 256, .inl f1_1)), (qf5, .inr (3, [.ref qf5_0, .int v5_1, .int v5_2, .int v5_3, .ref qf5_4, .ref qf5_5, .ref qf5_6, .int v5_7, .int v5_8, .int v5_9, .int v5_10, .ref qf5_11, .int v5_12, .ref qf5_13])), (qf5_13, .inl (cf5_13, 144, .inl f5_13)), (h0, .inr (11, [.ref qf0, .ref qf1, .int v2, .int v3, .int v4, .ref qf5, .int v6, .int v7, .ref qf8, .ref qf9, .ref qf10, .ref qf11, .ref qf12, .ref qf13, .ref qf14, .ref qf15, .int v16, .int v17, .int u7_1, .int u7_2, .int v20])), (qf15, .inl (cf15, 30, .inl g907_0))] := hD
              replace hK : va_K (dC, dI) vwCl [(cf14, .int), (cf1_1, .boolean), (cf5_13, .int), (cf15, .int)] s := hK
              refine lv_goto (tgt := 142) hx hb dX11_applyLocal_104 (by decide) ?_
              have hr0 := Option.some.inj hsp
              clear hsp
              obtain ⟨hq0, hr1⟩ := Prod.mk.inj hr0
              clear hr0
              obtain ⟨hq1, hr2⟩ := Prod.mk.inj hr1
              clear hr1
              obtain ⟨hq2, hr3⟩ := Prod.mk.inj hr2
              clear hr2
              subst hq0
              subst hq1
              subst hq2
              subst hr3
              have hP9 := hP.sub (ws' := [(h0, .inr (11, [.ref qf0, .ref qf1, .int v2, .int v3, .int v4, .ref qf5, .int v6, .int v7, .ref qf8, .ref qf9, .ref qf10, .ref qf11, .ref qf12, .ref qf13, .ref qf14, .ref qf15, .int v16, .int v17, .int u7_1, .int u7_2, .int v20])), (qf5, .inr (3, [.ref qf5_0, .int v5_1, .int v5_2, .int v5_3, .ref qf5_4, .ref qf5_5, .ref qf5_6, .int v5_7, .int v5_8, .int v5_9, .int v5_10, .ref qf5_11, .int v5_12, .ref qf5_13])), (qf5_13, .inl (cf5_13, 144, .inl f5_13)), (qf14, .inl (cf14, 30, .inl f14)), (qf15, .inl (cf15, 30, .inl g907_0)), (qf1, .inr (4, [.ref qf1_0, .ref qf1_1])), (qf1_1, .inl (cf1_1, 256, .inl f1_1))]) [5, 3, 4, 0, 6, 1, 2] rfl
              have hD9 := hD.sub (ws' := [(h0, .inr (11, [.ref qf0, .ref qf1, .int v2, .int v3, .int v4, .ref qf5, .int v6, .int v7, .ref qf8, .ref qf9, .ref qf10, .ref qf11, .ref qf12, .ref qf13, .ref qf14, .ref qf15, .int v16, .int v17, .int u7_1, .int u7_2, .int v20])), (qf5, .inr (3, [.ref qf5_0, .int v5_1, .int v5_2, .int v5_3, .ref qf5_4, .ref qf5_5, .ref qf5_6, .int v5_7, .int v5_8, .int v5_9, .int v5_10, .ref qf5_11, .int v5_12, .ref qf5_13])), (qf5_13, .inl (cf5_13, 144, .inl f5_13)), (qf14, .inl (cf14, 30, .inl f14)), (qf15, .inl (cf15, 30, .inl g907_0)), (qf1, .inr (4, [.ref qf1_0, .ref qf1_1])), (qf1_1, .inl (cf1_1, 256, .inl f1_1))]) [5, 3, 4, 0, 6, 1, 2] (by decide) rfl
              have hK9 := hK.sub (tys' := [(cf5_13, .int), (cf14, .int), (cf15, .int), (cf1_1, .boolean)]) [2, 0, 3, 1] rfl
              exact W.vret hx hb hr (fun t ht hW => ⟨⟨(), rfl, trivial, by rw [ht]; exact hP9, va_K.moved hW.alike hK9, hD9⟩, hS.F ht⟩) hS.2.2 dX11_applyLocal_142
            · rw [if_neg c_18] at hsp
              refine lv_iload_n hx hb dX11_applyLocal_82 rfl (lv_at hl 0 rfl) ?_
              refine lv_if_eq (tgt := 90) hx hb dX11_applyLocal_83 (by decide) (fun c_20 => ?_) (fun c_20 => (show False by revert c_20; decide).elim)
              refine lv_iconst (v := 0) hx hb dX11_applyLocal_90 (by decide) ?_
              refine va_put (D := (dC, dI)) (ci := 11) (v := .int 0) (ty := .boolean) (C := RX11) (T := TX11) (N := 21) hx hb hts uV_h3_X11 tyX11 tyX11_ok nmX11 hown hK hP hD hS 4 rfl rfl 19 (by decide) (hts (.fieldLink RX11 295 "ClassMill$Verifier" "fitting" "Z") mw_h3_220) (fun _ h9 => h9) rfl (by decide +kernel) rfl rfl (Nat.le_of_ble_eq_true rfl) dX11_applyLocal_91 ?_
              clear hP hD hS
              intro H locs hP hD hS
              replace hP : va_P (dC, dI) vwCl [(qf14, .inl (cf14, 30, .inl f14)), (qf15, .inl (cf15, 30, .inl f15)), (qf1, .inr (4, [.ref qf1_0, .ref qf1_1])), (qf1_1, .inl (cf1_1, 256, .inl f1_1)), (h0, .inr (11, [.ref qf0, .ref qf1, .int v2, .int v3, .int v4, .ref qf5, .int v6, .int v7, .ref qf8, .ref qf9, .ref qf10, .ref qf11, .ref qf12, .ref qf13, .ref qf14, .ref qf15, .int v16, .int v17, .int v18, .int 0, .int v20])), (qf5, .inr (3, [.ref qf5_0, .int v5_1, .int v5_2, .int v5_3, .ref qf5_4, .ref qf5_5, .ref qf5_6, .int v5_7, .int v5_8, .int v5_9, .int v5_10, .ref qf5_11, .int v5_12, .ref qf5_13])), (qf5_13, .inl (cf5_13, 144, .inl f5_13))] H := hP
              replace hD : va_D A [(qf14, .inl (cf14, 30, .inl f14)), (qf15, .inl (cf15, 30, .inl f15)), (qf1, .inr (4, [.ref qf1_0, .ref qf1_1])), (qf1_1, .inl (cf1_1, 256, .inl f1_1)), (h0, .inr (11, [.ref qf0, .ref qf1, .int v2, .int v3, .int v4, .ref qf5, .int v6, .int v7, .ref qf8, .ref qf9, .ref qf10, .ref qf11, .ref qf12, .ref qf13, .ref qf14, .ref qf15, .int v16, .int v17, .int v18, .int 0, .int v20])), (qf5, .inr (3, [.ref qf5_0, .int v5_1, .int v5_2, .int v5_3, .ref qf5_4, .ref qf5_5, .ref qf5_6, .int v5_7, .int v5_8, .int v5_9, .int v5_10, .ref qf5_11, .int v5_12, .ref qf5_13])), (qf5_13, .inl (cf5_13, 144, .inl f5_13))] := hD
              refine lv_aload_n hx hb dX11_applyLocal_94 rfl (lv_at hl 1 rfl) ?_
              refine lv_aload_n hx hb dX11_applyLocal_95 rfl (lv_at hl 1 rfl) ?_
              refine va_get (D := (dC, dI)) (ci := 11) (v := .ref qf14) (C := RX11) (T := TX11) (N := 21) hx hb hts uV_h3_X11 hown hK hP 4 rfl rfl 14 (by decide) (hts (.fieldLink RX11 44 "ClassMill$Verifier" "locals" "[I") mw_h3_205) (fun _ h9 => h9) rfl dX11_applyLocal_96 ?_
              refine lv_iload_n hx hb dX11_applyLocal_99 rfl (lv_at hl 3 rfl) ?_
              obtain ⟨hi_21, hsp⟩ := ox_in hsp
              refine va_iald hx hb hK hP 0 0 rfl rfl (i := a2) hi_21 dX11_applyLocal_100 ?_
              obtain ⟨⟨g908_0, u8_1, u8_2⟩, hu_8, hsp⟩ := ox_bind hsp
              try dsimp only at hsp
              have hPc := hP.sub (ws' := [(h0, .inr (11, [.ref qf0, .ref qf1, .int v2, .int v3, .int v4, .ref qf5, .int v6, .int v7, .ref qf8, .ref qf9, .ref qf10, .ref qf11, .ref qf12, .ref qf13, .ref qf14, .ref qf15, .int v16, .int v17, .int v18, .int 0, .int v20])), (qf15, .inl (cf15, 30, .inl f15))]) [4, 1] rfl
              have hDc := hD.sub (ws' := [(h0, .inr (11, [.ref qf0, .ref qf1, .int v2, .int v3, .int v4, .ref qf5, .int v6, .int v7, .ref qf8, .ref qf9, .ref qf10, .ref qf11, .ref qf12, .ref qf13, .ref qf14, .ref qf15, .int v16, .int v17, .int v18, .int 0, .int v20])), (qf15, .inl (cf15, 30, .inl f15))]) [4, 1] (by decide) rfl
              have hKc := hK.sub (tys' := [(cf15, .int)]) [1] rfl
              have hFc := va_free (wc := [(h0, .inr (11, [.ref qf0, .ref qf1, .int v2, .int v3, .int v4, .ref qf5, .int v6, .int v7, .ref qf8, .ref qf9, .ref qf10, .ref qf11, .ref qf12, .ref qf13, .ref qf14, .ref qf15, .int v16, .int v17, .int v18, .int 0, .int v20])), (qf15, .inl (cf15, 30, .inl f15))]) hD hS hA [4, 1] rfl
              refine va_callv (va_runV (As := [.int (f14 (a2 : Int32).toNatClampNeg)]) (rest := []) ⟨hx, hb, hml, hown, hts⟩ (t11_push l dC dI H.size h0 ((f14 (a2 : Int32).toNatClampNeg)) qf0 qf1 v2 v3 v4 qf5 v6 v7 qf8 qf9 qf10 qf11 qf12 qf13 qf14 qf15 v16 v17 v18 0 v20 cf15 f15 nf g908_0 u8_1 u8_2 hu_8) (cwV 1 hts gv_h3_52 rfl rfl rfl (by decide +kernel) ⟨Nat.le_of_ble_eq_true rfl, Nat.le_of_ble_eq_true rfl⟩) ⟨fun a U g mk q => by obtain ⟨q0, q1, qP, qK, qD⟩ := q; exact ⟨q0, q1, qP, va_K.moved (u := U) (U := U.calling g mk a) (Vm.Alike.refl U.vm) qK, qD⟩, va_recv hKc hPc (ci := 11) (q0 := 0) rfl rfl, fun U hU hW => ⟨rfl, by rw [hU], by rw [hU]; exact hPc, va_K.moved hW.alike hKc, hDc.weaken (fun _ _ _ _ => trivial)⟩⟩ rfl rfl hl.1 rfl (lv_room (Nat.le_of_ble_eq_true rfl)) dX11_applyLocal_101 ⟨Nat.le_of_ble_eq_true rfl, Nat.le_of_ble_eq_true rfl⟩) hS (fun q _ h => hFc q h) hFc ?_
              clear hS
              intro u t H1 locs ht hvm hw hB hz1 hk1 hS
              obtain ⟨⟩ := u
              obtain ⟨hP1, hK1, hD1⟩ := hB
              rw [ht] at hP1
              have hK1 := va_K.moved hvm.symm hK1
              try dsimp only at hw
              have hPD := va_join (wr := [(qf14, .inl (cf14, 30, .inl f14)), (qf1, .inr (4, [.ref qf1_0, .ref qf1_1])), (qf1_1, .inl (cf1_1, 256, .inl f1_1)), (qf5, .inr (3, [.ref qf5_0, .int v5_1, .int v5_2, .int v5_3, .ref qf5_4, .ref qf5_5, .ref qf5_6, .int v5_7, .int v5_8, .int v5_9, .int v5_10, .ref qf5_11, .int v5_12, .ref qf5_13])), (qf5_13, .inl (cf5_13, 144, .inl f5_13))]) (w1 := [(h0, .inr (11, [.ref qf0, .ref qf1, .int v2, .int v3, .int v4, .ref qf5, .int v6, .int v7, .ref qf8, .ref qf9, .ref qf10, .ref qf11, .ref qf12, .ref qf13, .ref qf14, .ref qf15, .int v16, .int v17, .int u8_1, .int u8_2, .int v20])), (qf15, .inl (cf15, 30, .inl g908_0))]) hP hD [4, 1] [0, 2, 3, 5, 6] rfl rfl (by decide) (by decide) hk1 hFc hP1 hD1
              clear hP hD
              obtain ⟨hP, hD⟩ := hPD
              replace hK := (hK.sub (tys' := [(cf14, .int), (cf1_1, .boolean), (cf5_13, .int)]) [0, 2, 3] rfl).app hK1
              clear hPc hDc hKc hFc hP1 hK1 hD1 hz1 hk1 ht hvm
              generalize H1 = H at hP hS ⊢
              replace hP : va_P (dC, dI) vwCl [(qf14, .inl (cf14, 30, .inl f14)), (qf1, .inr (4, [.ref qf1_0, .ref qf1_1])), (qf1_1, .inl (cf1_1, 256, .inl f1_1)), (qf5, .inr (3, [.ref qf5_0, .int v5_1, .int v5_2, .int v5_3, .ref qf5_4, .ref qf5_5, .ref qf5_6, .int v5_7, .int v5_8, .int v5_9, .int v5_10, .ref qf5_11, .int v5_12, .ref qf5_13])), (qf5_13, .inl (cf5_13, 144, .inl f5_13)), (h0, .inr (11, [.ref qf0, .ref qf1, .int v2, .int v3, .int v4, .ref qf5, .int v6, .int v7, .ref qf8, .ref qf9, .ref qf10, .ref qf11, .ref qf12, .ref qf13, .ref qf14, .ref qf15, .int v16, .int v17, .int u8_1, .int u8_2, .int v20])), (qf15, .inl (cf15, 30, .inl g908_0))] H := hP
              replace hD : va_D A [(qf14, .inl (cf14, 30, .inl f14)), (qf1, .inr (4, [.ref qf1_0, .ref qf1_1])), (qf1_1, .inl (cf1_1, 256, .inl f1_1)), (qf5, .inr (3, [.ref qf5_0, .int v5_1, .int v5_2, .int v5_3, .ref qf5_4, .ref qf5_5, .ref qf5_6, .int v5_7, .int v5_8, .int v5_9, .int v5_10, .ref qf5_11, .int v5_12, .ref qf5_13])), (qf5_13, .inl (cf5_13, 144, .inl f5_13)), (h0, .inr (11, [.ref qf0, .ref qf1, .int v2, .int v3, .int v4, .ref qf5, .int v6, .int v7, .ref qf8, .ref qf9, .ref qf10, .ref qf11, .ref qf12, .ref qf13, .ref qf14, .ref qf15, .int v16, .int v17, .int u8_1, .int u8_2, .int v20])), (qf15, .inl (cf15, 30, .inl g908_0))] := hD
              replace hK : va_K (dC, dI) vwCl [(cf14, .int), (cf1_1, .boolean), (cf5_13, .int), (cf15, .int)] s := hK
              refine lv_goto (tgt := 142) hx hb dX11_applyLocal_104 (by decide) ?_
              have hr0 := Option.some.inj hsp
              clear hsp
              obtain ⟨hq0, hr1⟩ := Prod.mk.inj hr0
              clear hr0
              obtain ⟨hq1, hr2⟩ := Prod.mk.inj hr1
              clear hr1
              obtain ⟨hq2, hr3⟩ := Prod.mk.inj hr2
              clear hr2
              subst hq0
              subst hq1
              subst hq2
              subst hr3
              have hP9 := hP.sub (ws' := [(h0, .inr (11, [.ref qf0, .ref qf1, .int v2, .int v3, .int v4, .ref qf5, .int v6, .int v7, .ref qf8, .ref qf9, .ref qf10, .ref qf11, .ref qf12, .ref qf13, .ref qf14, .ref qf15, .int v16, .int v17, .int u8_1, .int u8_2, .int v20])), (qf5, .inr (3, [.ref qf5_0, .int v5_1, .int v5_2, .int v5_3, .ref qf5_4, .ref qf5_5, .ref qf5_6, .int v5_7, .int v5_8, .int v5_9, .int v5_10, .ref qf5_11, .int v5_12, .ref qf5_13])), (qf5_13, .inl (cf5_13, 144, .inl f5_13)), (qf14, .inl (cf14, 30, .inl f14)), (qf15, .inl (cf15, 30, .inl g908_0)), (qf1, .inr (4, [.ref qf1_0, .ref qf1_1])), (qf1_1, .inl (cf1_1, 256, .inl f1_1))]) [5, 3, 4, 0, 6, 1, 2] rfl
              have hD9 := hD.sub (ws' := [(h0, .inr (11, [.ref qf0, .ref qf1, .int v2, .int v3, .int v4, .ref qf5, .int v6, .int v7, .ref qf8, .ref qf9, .ref qf10, .ref qf11, .ref qf12, .ref qf13, .ref qf14, .ref qf15, .int v16, .int v17, .int u8_1, .int u8_2, .int v20])), (qf5, .inr (3, [.ref qf5_0, .int v5_1, .int v5_2, .int v5_3, .ref qf5_4, .ref qf5_5, .ref qf5_6, .int v5_7, .int v5_8, .int v5_9, .int v5_10, .ref qf5_11, .int v5_12, .ref qf5_13])), (qf5_13, .inl (cf5_13, 144, .inl f5_13)), (qf14, .inl (cf14, 30, .inl f14)), (qf15, .inl (cf15, 30, .inl g908_0)), (qf1, .inr (4, [.ref qf1_0, .ref qf1_1])), (qf1_1, .inl (cf1_1, 256, .inl f1_1))]) [5, 3, 4, 0, 6, 1, 2] (by decide) rfl
              have hK9 := hK.sub (tys' := [(cf5_13, .int), (cf14, .int), (cf15, .int), (cf1_1, .boolean)]) [2, 0, 3, 1] rfl
              exact W.vret hx hb hr (fun t ht hW => ⟨⟨(), rfl, trivial, by rw [ht]; exact hP9, va_K.moved hW.alike hK9, hD9⟩, hS.F ht⟩) hS.2.2 dX11_applyLocal_142
          · rw [if_pos c_17] at hsp
            refine lv_iconst (v := 1) hx hb dX11_applyLocal_56 (by decide) ?_
            refine lv_goto (tgt := 73) hx hb dX11_applyLocal_57 (by decide) ?_
            refine lv_istore_n (lv' := [(3, .int 1), (0, .ref h0), (1, .int a1), (2, .int a2)]) hx hb dX11_applyLocal_73 rfl hl (by decide) rfl (fun ls hl => ?_)
            refine lv_aload_n hx hb dX11_applyLocal_74 rfl (lv_at hl 1 rfl) ?_
            refine lv_aload_n hx hb dX11_applyLocal_75 rfl (lv_at hl 1 rfl) ?_
            refine va_get (D := (dC, dI)) (ci := 11) (v := .int v19) (C := RX11) (T := TX11) (N := 21) hx hb hts uV_h3_X11 hown hK hP 4 rfl rfl 19 (by decide) (hts (.fieldLink RX11 295 "ClassMill$Verifier" "fitting" "Z") mw_h3_220) (fun _ h9 => h9) rfl dX11_applyLocal_76 ?_
            refine lv_if_eq (tgt := 90) hx hb dX11_applyLocal_79 (by decide) (fun c_22 => ?_) (fun c_22 => ?_)
            · rw [if_pos c_22] at hsp
              refine lv_iconst (v := 0) hx hb dX11_applyLocal_90 (by decide) ?_
              refine va_put (D := (dC, dI)) (ci := 11) (v := .int 0) (ty := .boolean) (C := RX11) (T := TX11) (N := 21) hx hb hts uV_h3_X11 tyX11 tyX11_ok nmX11 hown hK hP hD hS 4 rfl rfl 19 (by decide) (hts (.fieldLink RX11 295 "ClassMill$Verifier" "fitting" "Z") mw_h3_220) (fun _ h9 => h9) rfl (by decide +kernel) rfl rfl (Nat.le_of_ble_eq_true rfl) dX11_applyLocal_91 ?_
              clear hP hD hS
              intro H locs hP hD hS
              replace hP : va_P (dC, dI) vwCl [(qf14, .inl (cf14, 30, .inl f14)), (qf15, .inl (cf15, 30, .inl f15)), (qf1, .inr (4, [.ref qf1_0, .ref qf1_1])), (qf1_1, .inl (cf1_1, 256, .inl f1_1)), (h0, .inr (11, [.ref qf0, .ref qf1, .int v2, .int v3, .int v4, .ref qf5, .int v6, .int v7, .ref qf8, .ref qf9, .ref qf10, .ref qf11, .ref qf12, .ref qf13, .ref qf14, .ref qf15, .int v16, .int v17, .int v18, .int 0, .int v20])), (qf5, .inr (3, [.ref qf5_0, .int v5_1, .int v5_2, .int v5_3, .ref qf5_4, .ref qf5_5, .ref qf5_6, .int v5_7, .int v5_8, .int v5_9, .int v5_10, .ref qf5_11, .int v5_12, .ref qf5_13])), (qf5_13, .inl (cf5_13, 144, .inl f5_13))] H := hP
              replace hD : va_D A [(qf14, .inl (cf14, 30, .inl f14)), (qf15, .inl (cf15, 30, .inl f15)), (qf1, .inr (4, [.ref qf1_0, .ref qf1_1])), (qf1_1, .inl (cf1_1, 256, .inl f1_1)), (h0, .inr (11, [.ref qf0, .ref qf1, .int v2, .int v3, .int v4, .ref qf5, .int v6, .int v7, .ref qf8, .ref qf9, .ref qf10, .ref qf11, .ref qf12, .ref qf13, .ref qf14, .ref qf15, .int v16, .int v17, .int v18, .int 0, .int v20])), (qf5, .inr (3, [.ref qf5_0, .int v5_1, .int v5_2, .int v5_3, .ref qf5_4, .ref qf5_5, .ref qf5_6, .int v5_7, .int v5_8, .int v5_9, .int v5_10, .ref qf5_11, .int v5_12, .ref qf5_13])), (qf5_13, .inl (cf5_13, 144, .inl f5_13))] := hD
              refine lv_aload_n hx hb dX11_applyLocal_94 rfl (lv_at hl 1 rfl) ?_
              refine lv_aload_n hx hb dX11_applyLocal_95 rfl (lv_at hl 1 rfl) ?_
              refine va_get (D := (dC, dI)) (ci := 11) (v := .ref qf14) (C := RX11) (T := TX11) (N := 21) hx hb hts uV_h3_X11 hown hK hP 4 rfl rfl 14 (by decide) (hts (.fieldLink RX11 44 "ClassMill$Verifier" "locals" "[I") mw_h3_205) (fun _ h9 => h9) rfl dX11_applyLocal_96 ?_
              refine lv_iload_n hx hb dX11_applyLocal_99 rfl (lv_at hl 3 rfl) ?_
              obtain ⟨hi_23, hsp⟩ := ox_in hsp
              refine va_iald hx hb hK hP 0 0 rfl rfl (i := a2) hi_23 dX11_applyLocal_100 ?_
              obtain ⟨⟨g909_0, u9_1, u9_2⟩, hu_9, hsp⟩ := ox_bind hsp
              try dsimp only at hsp
              have hPc := hP.sub (ws' := [(h0, .inr (11, [.ref qf0, .ref qf1, .int v2, .int v3, .int v4, .ref qf5, .int v6, .int v7, .ref qf8, .ref qf9, .ref qf10, .ref qf11, .ref qf12, .ref qf13, .ref qf14, .ref qf15, .int v16, .int v17, .int v18, .int 0, .int v20])), (qf15, .inl (cf15, 30, .inl f15))]) [4, 1] rfl
              have hDc := hD.sub (ws' := [(h0, .inr (11, [.ref qf0, .ref qf1, .int v2, .int v3, .int v4, .ref qf5, .int v6, .int v7, .ref qf8, .ref qf9, .ref qf10, .ref qf11, .ref qf12, .ref qf13, .ref qf14, .ref qf15, .int v16, .int v17, .int v18, .int 0, .int v20])), (qf15, .inl (cf15, 30, .inl f15))]) [4, 1] (by decide) rfl
              have hKc := hK.sub (tys' := [(cf15, .int)]) [1] rfl
              have hFc := va_free (wc := [(h0, .inr (11, [.ref qf0, .ref qf1, .int v2, .int v3, .int v4, .ref qf5, .int v6, .int v7, .ref qf8, .ref qf9, .ref qf10, .ref qf11, .ref qf12, .ref qf13, .ref qf14, .ref qf15, .int v16, .int v17, .int v18, .int 0, .int v20])), (qf15, .inl (cf15, 30, .inl f15))]) hD hS hA [4, 1] rfl
              refine va_callv (va_runV (As := [.int (f14 (a2 : Int32).toNatClampNeg)]) (rest := []) ⟨hx, hb, hml, hown, hts⟩ (t11_push l dC dI H.size h0 ((f14 (a2 : Int32).toNatClampNeg)) qf0 qf1 v2 v3 v4 qf5 v6 v7 qf8 qf9 qf10 qf11 qf12 qf13 qf14 qf15 v16 v17 v18 0 v20 cf15 f15 nf g909_0 u9_1 u9_2 hu_9) (cwV 1 hts gv_h3_52 rfl rfl rfl (by decide +kernel) ⟨Nat.le_of_ble_eq_true rfl, Nat.le_of_ble_eq_true rfl⟩) ⟨fun a U g mk q => by obtain ⟨q0, q1, qP, qK, qD⟩ := q; exact ⟨q0, q1, qP, va_K.moved (u := U) (U := U.calling g mk a) (Vm.Alike.refl U.vm) qK, qD⟩, va_recv hKc hPc (ci := 11) (q0 := 0) rfl rfl, fun U hU hW => ⟨rfl, by rw [hU], by rw [hU]; exact hPc, va_K.moved hW.alike hKc, hDc.weaken (fun _ _ _ _ => trivial)⟩⟩ rfl rfl hl.1 rfl (lv_room (Nat.le_of_ble_eq_true rfl)) dX11_applyLocal_101 ⟨Nat.le_of_ble_eq_true rfl, Nat.le_of_ble_eq_true rfl⟩) hS (fun q _ h => hFc q h) hFc ?_
              clear hS
              intro u t H1 locs ht hvm hw hB hz1 hk1 hS
              obtain ⟨⟩ := u
              obtain ⟨hP1, hK1, hD1⟩ := hB
              rw [ht] at hP1
              have hK1 := va_K.moved hvm.symm hK1
              try dsimp only at hw
              have hPD := va_join (wr := [(qf14, .inl (cf14, 30, .inl f14)), (qf1, .inr (4, [.ref qf1_0, .ref qf1_1])), (qf1_1, .inl (cf1_1, 256, .inl f1_1)), (qf5, .inr (3, [.ref qf5_0, .int v5_1, .int v5_2, .int v5_3, .ref qf5_4, .ref qf5_5, .ref qf5_6, .int v5_7, .int v5_8, .int v5_9, .int v5_10, .ref qf5_11, .int v5_12, .ref qf5_13])), (qf5_13, .inl (cf5_13, 144, .inl f5_13))]) (w1 := [(h0, .inr (11, [.ref qf0, .ref qf1, .int v2, .int v3, .int v4, .ref qf5, .int v6, .int v7, .ref qf8, .ref qf9, .ref qf10, .ref qf11, .ref qf12, .ref qf13, .ref qf14, .ref qf15, .int v16, .int v17, .int u9_1, .int u9_2, .int v20])), (qf15, .inl (cf15, 30, .inl g909_0))]) hP hD [4, 1] [0, 2, 3, 5, 6] rfl rfl (by decide) (by decide) hk1 hFc hP1 hD1
              clear hP hD
              obtain ⟨hP, hD⟩ := hPD
              replace hK := (hK.sub (tys' := [(cf14, .int), (cf1_1, .boolean), (cf5_13, .int)]) [0, 2, 3] rfl).app hK1
              clear hPc hDc hKc hFc hP1 hK1 hD1 hz1 hk1 ht hvm
              generalize H1 = H at hP hS ⊢
              replace hP : va_P (dC, dI) vwCl [(qf14, .inl (cf14, 30, .inl f14)), (qf1, .inr (4, [.ref qf1_0, .ref qf1_1])), (qf1_1, .inl (cf1_1, 256, .inl f1_1)), (qf5, .inr (3, [.ref qf5_0, .int v5_1, .int v5_2, .int v5_3, .ref qf5_4, .ref qf5_5, .ref qf5_6, .int v5_7, .int v5_8, .int v5_9, .int v5_10, .ref qf5_11, .int v5_12, .ref qf5_13])), (qf5_13, .inl (cf5_13, 144, .inl f5_13)), (h0, .inr (11, [.ref qf0, .ref qf1, .int v2, .int v3, .int v4, .ref qf5, .int v6, .int v7, .ref qf8, .ref qf9, .ref qf10, .ref qf11, .ref qf12, .ref qf13, .ref qf14, .ref qf15, .int v16, .int v17, .int u9_1, .int u9_2, .int v20])), (qf15, .inl (cf15, 30, .inl g909_0))] H := hP
              replace hD : va_D A [(qf14, .inl (cf14, 30, .inl f14)), (qf1, .inr (4, [.ref qf1_0, .ref qf1_1])), (qf1_1, .inl (cf1_1, 256, .inl f1_1)), (qf5, .inr (3, [.ref qf5_0, .int v5_1, .int v5_2, .int v5_3, .ref qf5_4, .ref qf5_5, .ref qf5_6, .int v5_7, .int v5_8, .int v5_9, .int v5_10, .ref qf5_11, .int v5_12, .ref qf5_13])), (qf5_13, .inl (cf5_13, 144, .inl f5_13)), (h0, .inr (11, [.ref qf0, .ref qf1, .int v2, .int v3, .int v4, .ref qf5, .int v6, .int v7, .ref qf8, .ref qf9, .ref qf10, .ref qf11, .ref qf12, .ref qf13, .ref qf14, .ref qf15, .int v16, .int v17, .int u9_1, .int u9_2, .int v20])), (qf15, .inl (cf15, 30, .inl g909_0))] := hD
              replace hK : va_K (dC, dI) vwCl [(cf14, .int), (cf1_1, .boolean), (cf5_13, .int), (cf15, .int)] s := hK
              refine lv_goto (tgt := 142) hx hb dX11_applyLocal_104 (by decide) ?_
              have hr0 := Option.some.inj hsp
              clear hsp
              obtain ⟨hq0, hr1⟩ := Prod.mk.inj hr0
              clear hr0
              obtain ⟨hq1, hr2⟩ := Prod.mk.inj hr1
              clear hr1
              obtain ⟨hq2, hr3⟩ := Prod.mk.inj hr2
              clear hr2
              subst hq0
              subst hq1
              subst hq2
              subst hr3
              have hP9 := hP.sub (ws' := [(h0, .inr (11, [.ref qf0, .ref qf1, .int v2, .int v3, .int v4, .ref qf5, .int v6, .int v7, .ref qf8, .ref qf9, .ref qf10, .ref qf11, .ref qf12, .ref qf13, .ref qf14, .ref qf15, .int v16, .int v17, .int u9_1, .int u9_2, .int v20])), (qf5, .inr (3, [.ref qf5_0, .int v5_1, .int v5_2, .int v5_3, .ref qf5_4, .ref qf5_5, .ref qf5_6, .int v5_7, .int v5_8, .int v5_9, .int v5_10, .ref qf5_11, .int v5_12, .ref qf5_13])), (qf5_13, .inl (cf5_13, 144, .inl f5_13)), (qf14, .inl (cf14, 30, .inl f14)), (qf15, .inl (cf15, 30, .inl g909_0)), (qf1, .inr (4, [.ref qf1_0, .ref qf1_1])), (qf1_1, .inl (cf1_1, 256, .inl f1_1))]) [5, 3, 4, 0, 6, 1, 2] rfl
              have hD9 := hD.sub (ws' := [(h0, .inr (11, [.ref qf0, .ref qf1, .int v2, .int v3, .int v4, .ref qf5, .int v6, .int v7, .ref qf8, .ref qf9, .ref qf10, .ref qf11, .ref qf12, .ref qf13, .ref qf14, .ref qf15, .int v16, .int v17, .int u9_1, .int u9_2, .int v20])), (qf5, .inr (3, [.ref qf5_0, .int v5_1, .int v5_2, .int v5_3, .ref qf5_4, .ref qf5_5, .ref qf5_6, .int v5_7, .int v5_8, .int v5_9, .int v5_10, .ref qf5_11, .int v5_12, .ref qf5_13])), (qf5_13, .inl (cf5_13, 144, .inl f5_13)), (qf14, .inl (cf14, 30, .inl f14)), (qf15, .inl (cf15, 30, .inl g909_0)), (qf1, .inr (4, [.ref qf1_0, .ref qf1_1])), (qf1_1, .inl (cf1_1, 256, .inl f1_1))]) [5, 3, 4, 0, 6, 1, 2] (by decide) rfl
              have hK9 := hK.sub (tys' := [(cf5_13, .int), (cf14, .int), (cf15, .int), (cf1_1, .boolean)]) [2, 0, 3, 1] rfl
              exact W.vret hx hb hr (fun t ht hW => ⟨⟨(), rfl, trivial, by rw [ht]; exact hP9, va_K.moved hW.alike hK9, hD9⟩, hS.F ht⟩) hS.2.2 dX11_applyLocal_142
            · rw [if_neg c_22] at hsp
              refine lv_iload_n hx hb dX11_applyLocal_82 rfl (lv_at hl 0 rfl) ?_
              refine lv_if_eq (tgt := 90) hx hb dX11_applyLocal_83 (by decide) (fun c_24 => (show False by revert c_24; decide).elim) (fun c_24 => ?_)
              refine lv_iconst (v := 1) hx hb dX11_applyLocal_86 (by decide) ?_
              refine lv_goto (tgt := 91) hx hb dX11_applyLocal_87 (by decide) ?_
              refine va_put (D := (dC, dI)) (ci := 11) (v := .int 1) (ty := .boolean) (C := RX11) (T := TX11) (N := 21) hx hb hts uV_h3_X11 tyX11 tyX11_ok nmX11 hown hK hP hD hS 4 rfl rfl 19 (by decide) (hts (.fieldLink RX11 295 "ClassMill$Verifier" "fitting" "Z") mw_h3_220) (fun _ h9 => h9) rfl (by decide +kernel) rfl rfl (Nat.le_of_ble_eq_true rfl) dX11_applyLocal_91 ?_
              clear hP hD hS
              intro H locs hP hD hS
              replace hP : va_P (dC, dI) vwCl [(qf14, .inl (cf14, 30, .inl f14)), (qf15, .inl (cf15, 30, .inl f15)), (qf1, .inr (4, [.ref qf1_0, .ref qf1_1])), (qf1_1, .inl (cf1_1, 256, .inl f1_1)), (h0, .inr (11, [.ref qf0, .ref qf1, .int v2, .int v3, .int v4, .ref qf5, .int v6, .int v7, .ref qf8, .ref qf9, .ref qf10, .ref qf11, .ref qf12, .ref qf13, .ref qf14, .ref qf15, .int v16, .int v17, .int v18, .int 1, .int v20])), (qf5, .inr (3, [.ref qf5_0, .int v5_1, .int v5_2, .int v5_3, .ref qf5_4, .ref qf5_5, .ref qf5_6, .int v5_7, .int v5_8, .int v5_9, .int v5_10, .ref qf5_11, .int v5_12, .ref qf5_13])), (qf5_13, .inl (cf5_13, 144, .inl f5_13))] H := hP
              replace hD : va_D A [(qf14, .inl (cf14, 30, .inl f14)), (qf15, .inl (cf15, 30, .inl f15)), (qf1, .inr (4, [.ref qf1_0, .ref qf1_1])), (qf1_1, .inl (cf1_1, 256, .inl f1_1)), (h0, .inr (11, [.ref qf0, .ref qf1, .int v2, .int v3, .int v4, .ref qf5, .int v6, .int v7, .ref qf8, .ref qf9, .ref qf10, .ref qf11, .ref qf12, .ref qf13, .ref qf14, .ref qf15, .int v16, .int v17, .int v18, .int 1, .int v20])), (qf5, .inr (3, [.ref qf5_0, .int v5_1, .int v5_2, .int v5_3, .ref qf5_4, .ref qf5_5, .ref qf5_6, .int v5_7, .int v5_8, .int v5_9, .int v5_10, .ref qf5_11, .int v5_12, .ref qf5_13])), (qf5_13, .inl (cf5_13, 144, .inl f5_13))] := hD
              refine lv_aload_n hx hb dX11_applyLocal_94 rfl (lv_at hl 1 rfl) ?_
              refine lv_aload_n hx hb dX11_applyLocal_95 rfl (lv_at hl 1 rfl) ?_
              refine va_get (D := (dC, dI)) (ci := 11) (v := .ref qf14) (C := RX11) (T := TX11) (N := 21) hx hb hts uV_h3_X11 hown hK hP 4 rfl rfl 14 (by decide) (hts (.fieldLink RX11 44 "ClassMill$Verifier" "locals" "[I") mw_h3_205) (fun _ h9 => h9) rfl dX11_applyLocal_96 ?_
              refine lv_iload_n hx hb dX11_applyLocal_99 rfl (lv_at hl 3 rfl) ?_
              obtain ⟨hi_25, hsp⟩ := ox_in hsp
              refine va_iald hx hb hK hP 0 0 rfl rfl (i := a2) hi_25 dX11_applyLocal_100 ?_
              obtain ⟨⟨g910_0, u10_1, u10_2⟩, hu_10, hsp⟩ := ox_bind hsp
              try dsimp only at hsp
              have hPc := hP.sub (ws' := [(h0, .inr (11, [.ref qf0, .ref qf1, .int v2, .int v3, .int v4, .ref qf5, .int v6, .int v7, .ref qf8, .ref qf9, .ref qf10, .ref qf11, .ref qf12, .ref qf13, .ref qf14, .ref qf15, .int v16, .int v17, .int v18, .int 1, .int v20])), (qf15, .inl (cf15, 30, .inl f15))]) [4, 1] rfl
              have hDc := hD.sub (ws' := [(h0, .inr (11, [.ref qf0, .ref qf1, .int v2, .int v3, .int v4, .ref qf5, .int v6, .int v7, .ref qf8, .ref qf9, .ref qf10, .ref qf11, .ref qf12, .ref qf13, .ref qf14, .ref qf15, .int v16, .int v17, .int v18, .int 1, .int v20])), (qf15, .inl (cf15, 30, .inl f15))]) [4, 1] (by decide) rfl
              have hKc := hK.sub (tys' := [(cf15, .int)]) [1] rfl
              have hFc := va_free (wc := [(h0, .inr (11, [.ref qf0, .ref qf1, .int v2, .int v3, .int v4, .ref qf5, .int v6, .int v7, .ref qf8, .ref qf9, .ref qf10, .ref qf11, .ref qf12, .ref qf13, .ref qf14, .ref qf15, .int v16, .int v17, .int v18, .int 1, .int v20])), (qf15, .inl (cf15, 30, .inl f15))]) hD hS hA [4, 1] rfl
              refine va_callv (va_runV (As := [.int (f14 (a2 : Int32).toNatClampNeg)]) (rest := []) ⟨hx, hb, hml, hown, hts⟩ (t11_push l dC dI H.size h0 ((f14 (a2 : Int32).toNatClampNeg)) qf0 qf1 v2 v3 v4 qf5 v6 v7 qf8 qf9 qf10 qf11 qf12 qf13 qf14 qf15 v16 v17 v18 1 v20 cf15 f15 nf g910_0 u10_1 u10_2 hu_10) (cwV 1 hts gv_h3_52 rfl rfl rfl (by decide +kernel) ⟨Nat.le_of_ble_eq_true rfl, Nat.le_of_ble_eq_true rfl⟩) ⟨fun a U g mk q => by obtain ⟨q0, q1, qP, qK, qD⟩ := q; exact ⟨q0, q1, qP, va_K.moved (u := U) (U := U.calling g mk a) (Vm.Alike.refl U.vm) qK, qD⟩, va_recv hKc hPc (ci := 11) (q0 := 0) rfl rfl, fun U hU hW => ⟨rfl, by rw [hU], by rw [hU]; exact hPc, va_K.moved hW.alike hKc, hDc.weaken (fun _ _ _ _ => trivial)⟩⟩ rfl rfl hl.1 rfl (lv_room (Nat.le_of_ble_eq_true rfl)) dX11_applyLocal_101 ⟨Nat.le_of_ble_eq_true rfl, Nat.le_of_ble_eq_true rfl⟩) hS (fun q _ h => hFc q h) hFc ?_
              clear hS
              intro u t H1 locs ht hvm hw hB hz1 hk1 hS
              obtain ⟨⟩ := u
              obtain ⟨hP1, hK1, hD1⟩ := hB
              rw [ht] at hP1
              have hK1 := va_K.moved hvm.symm hK1
              try dsimp only at hw
              have hPD := va_join (wr := [(qf14, .inl (cf14, 30, .inl f14)), (qf1, .inr (4, [.ref qf1_0, .ref qf1_1])), (qf1_1, .inl (cf1_1, 256, .inl f1_1)), (qf5, .inr (3, [.ref qf5_0, .int v5_1, .int v5_2, .int v5_3, .ref qf5_4, .ref qf5_5, .ref qf5_6, .int v5_7, .int v5_8, .int v5_9, .int v5_10, .ref qf5_11, .int v5_12, .ref qf5_13])), (qf5_13, .inl (cf5_13, 144, .inl f5_13))]) (w1 := [(h0, .inr (11, [.ref qf0, .ref qf1, .int v2, .int v3, .int v4, .ref qf5, .int v6, .int v7, .ref qf8, .ref qf9, .ref qf10, .ref qf11, .ref qf12, .ref qf13, .ref qf14, .ref qf15, .int v16, .int v17, .int u10_1, .int u10_2, .int v20])), (qf15, .inl (cf15, 30, .inl g910_0))]) hP hD [4, 1] [0, 2, 3, 5, 6] rfl rfl (by decide) (by decide) hk1 hFc hP1 hD1
              clear hP hD
              obtain ⟨hP, hD⟩ := hPD
              replace hK := (hK.sub (tys' := [(cf14, .int), (cf1_1, .boolean), (cf5_13, .int)]) [0, 2, 3] rfl).app hK1
              clear hPc hDc hKc hFc hP1 hK1 hD1 hz1 hk1 ht hvm
              generalize H1 = H at hP hS ⊢
              replace hP : va_P (dC, dI) vwCl [(qf14, .inl (cf14, 30, .inl f14)), (qf1, .inr (4, [.ref qf1_0, .ref qf1_1])), (qf1_1, .inl (cf1_1, 256, .inl f1_1)), (qf5, .inr (3, [.ref qf5_0, .int v5_1, .int v5_2, .int v5_3, .ref qf5_4, .ref qf5_5, .ref qf5_6, .int v5_7, .int v5_8, .int v5_9, .int v5_10, .ref qf5_11, .int v5_12, .ref qf5_13])), (qf5_13, .inl (cf5_13, 144, .inl f5_13)), (h0, .inr (11, [.ref qf0, .ref qf1, .int v2, .int v3, .int v4, .ref qf5, .int v6, .int v7, .ref qf8, .ref qf9, .ref qf10, .ref qf11, .ref qf12, .ref qf13, .ref qf14, .ref qf15, .int v16, .int v17, .int u10_1, .int u10_2, .int v20])), (qf15, .inl (cf15, 30, .inl g910_0))] H := hP
              replace hD : va_D A [(qf14, .inl (cf14, 30, .inl f14)), (qf1, .inr (4, [.ref qf1_0, .ref qf1_1])), (qf1_1, .inl (cf1_1, 256, .inl f1_1)), (qf5, .inr (3, [.ref qf5_0, .int v5_1, .int v5_2, .int v5_3, .ref qf5_4, .ref qf5_5, .ref qf5_6, .int v5_7, .int v5_8, .int v5_9, .int v5_10, .ref qf5_11, .int v5_12, .ref qf5_13])), (qf5_13, .inl (cf5_13, 144, .inl f5_13)), (h0, .inr (11, [.ref qf0, .ref qf1, .int v2, .int v3, .int v4, .ref qf5, .int v6, .int v7, .ref qf8, .ref qf9, .ref qf10, .ref qf11, .ref qf12, .ref qf13, .ref qf14, .ref qf15, .int v16, .int v17, .int u10_1, .int u10_2, .int v20])), (qf15, .inl (cf15, 30, .inl g910_0))] := hD
              replace hK : va_K (dC, dI) vwCl [(cf14, .int), (cf1_1, .boolean), (cf5_13, .int), (cf15, .int)] s := hK
              refine lv_goto (tgt := 142) hx hb dX11_applyLocal_104 (by decide) ?_
              have hr0 := Option.some.inj hsp
              clear hsp
              obtain ⟨hq0, hr1⟩ := Prod.mk.inj hr0
              clear hr0
              obtain ⟨hq1, hr2⟩ := Prod.mk.inj hr1
              clear hr1
              obtain ⟨hq2, hr3⟩ := Prod.mk.inj hr2
              clear hr2
              subst hq0
              subst hq1
              subst hq2
              subst hr3
              have hP9 := hP.sub (ws' := [(h0, .inr (11, [.ref qf0, .ref qf1, .int v2, .int v3, .int v4, .ref qf5, .int v6, .int v7, .ref qf8, .ref qf9, .ref qf10, .ref qf11, .ref qf12, .ref qf13, .ref qf14, .ref qf15, .int v16, .int v17, .int u10_1, .int u10_2, .int v20])), (qf5, .inr (3, [.ref qf5_0, .int v5_1, .int v5_2, .int v5_3, .ref qf5_4, .ref qf5_5, .ref qf5_6, .int v5_7, .int v5_8, .int v5_9, .int v5_10, .ref qf5_11, .int v5_12, .ref qf5_13])), (qf5_13, .inl (cf5_13, 144, .inl f5_13)), (qf14, .inl (cf14, 30, .inl f14)), (qf15, .inl (cf15, 30, .inl g910_0)), (qf1, .inr (4, [.ref qf1_0, .ref qf1_1])), (qf1_1, .inl (cf1_1, 256, .inl f1_1))]) [5, 3, 4, 0, 6, 1, 2] rfl
              have hD9 := hD.sub (ws' := [(h0, .inr (11, [.ref qf0, .ref qf1, .int v2, .int v3, .int v4, .ref qf5, .int v6, .int v7, .ref qf8, .ref qf9, .ref qf10, .ref qf11, .ref qf12, .ref qf13, .ref qf14, .ref qf15, .int v16, .int v17, .int u10_1, .int u10_2, .int v20])), (qf5, .inr (3, [.ref qf5_0, .int v5_1, .int v5_2, .int v5_3, .ref qf5_4, .ref qf5_5, .ref qf5_6, .int v5_7, .int v5_8, .int v5_9, .int v5_10, .ref qf5_11, .int v5_12, .ref qf5_13])), (qf5_13, .inl (cf5_13, 144, .inl f5_13)), (qf14, .inl (cf14, 30, .inl f14)), (qf15, .inl (cf15, 30, .inl g910_0)), (qf1, .inr (4, [.ref qf1_0, .ref qf1_1])), (qf1_1, .inl (cf1_1, 256, .inl f1_1))]) [5, 3, 4, 0, 6, 1, 2] (by decide) rfl
              have hK9 := hK.sub (tys' := [(cf5_13, .int), (cf14, .int), (cf15, .int), (cf1_1, .boolean)]) [2, 0, 3, 1] rfl
              exact W.vret hx hb hr (fun t ht hW => ⟨⟨(), rfl, trivial, by rw [ht]; exact hP9, va_K.moved hW.alike hK9, hD9⟩, hS.F ht⟩) hS.2.2 dX11_applyLocal_142
      · rw [if_neg c_4] at hsp
        refine lv_iload_n hx hb dX11_applyLocal_32 rfl (lv_at hl 1 rfl) ?_
        refine lv_bipush (v := 25) hx hb dX11_applyLocal_33 (by decide) ?_
        refine lv_icmp_ne (tgt := 107) hx hb dX11_applyLocal_35 (by decide) (fun c_26 => ?_) (fun c_26 => ?_)
        · rw [if_neg c_26] at hsp
          refine lv_iload_n hx hb dX11_applyLocal_107 rfl (lv_at hl 1 rfl) ?_
          refine lv_bipush (v := 54) hx hb dX11_applyLocal_108 (by decide) ?_
          refine lv_icmp_ne (tgt := 132) hx hb dX11_applyLocal_110 (by decide) (fun c_27 => ?_) (fun c_27 => ?_)
          · rw [if_neg c_27] at hsp
            refine lv_aload_n hx hb dX11_applyLocal_132 rfl (lv_at hl 0 rfl) ?_
            refine va_get (D := (dC, dI)) (ci := 11) (v := .ref qf14) (C := RX11) (T := TX11) (N := 21) hx hb hts uV_h3_X11 hown hK hP 4 rfl rfl 14 (by decide) (hts (.fieldLink RX11 44 "ClassMill$Verifier" "locals" "[I") mw_h3_205) (fun _ h9 => h9) rfl dX11_applyLocal_133 ?_
            refine lv_iload_n hx hb dX11_applyLocal_136 rfl (lv_at hl 2 rfl) ?_
            refine lv_aload_n hx hb dX11_applyLocal_137 rfl (lv_at hl 0 rfl) ?_
            obtain ⟨⟨u11_0, u11_1, u11_2⟩, hu_11, hsp⟩ := ox_bind hsp
            try dsimp only at hsp
            have hPc := hP.sub (ws' := [(h0, .inr (11, [.ref qf0, .ref qf1, .int v2, .int v3, .int v4, .ref qf5, .int v6, .int v7, .ref qf8, .ref qf9, .ref qf10, .ref qf11, .ref qf12, .ref qf13, .ref qf14, .ref qf15, .int v16, .int v17, .int v18, .int v19, .int v20])), (qf15, .inl (cf15, 30, .inl f15))]) [4, 1] rfl
            have hDc := hD.sub (ws' := [(h0, .inr (11, [.ref qf0, .ref qf1, .int v2, .int v3, .int v4, .ref qf5, .int v6, .int v7, .ref qf8, .ref qf9, .ref qf10, .ref qf11, .ref qf12, .ref qf13, .ref qf14, .ref qf15, .int v16, .int v17, .int v18, .int v19, .int v20])), (qf15, .inl (cf15, 30, .inl f15))]) [4, 1] (by decide) rfl
            have hKc := hK.sub (tys' := [(cf15, .int)]) [1] rfl
            have hFc := va_free (wc := [(h0, .inr (11, [.ref qf0, .ref qf1, .int v2, .int v3, .int v4, .ref qf5, .int v6, .int v7, .ref qf8, .ref qf9, .ref qf10, .ref qf11, .ref qf12, .ref qf13, .ref qf14, .ref qf15, .int v16, .int v17, .int v18, .int v19, .int v20])), (qf15, .inl (cf15, 30, .inl f15))]) hD hS hA [4, 1] rfl
            refine va_calli (va_runV (As := []) (rest := [.int a2, .ref qf14]) ⟨hx, hb, hml, hown, hts⟩ (t11_wantReference l dC dI H.size h0 qf0 qf1 v2 v3 v4 qf5 v6 v7 qf8 qf9 qf10 qf11 qf12 qf13 qf14 qf15 v16 v17 v18 v19 v20 cf15 f15 nf u11_0 u11_1 u11_2 hu_11) (cwV 0 hts gv_h3_53 rfl rfl rfl (by decide +kernel) ⟨Nat.le_of_ble_eq_true rfl, Nat.le_of_ble_eq_true rfl⟩) ⟨fun a U g mk q => by obtain ⟨q0, q1, qP, qK, qD⟩ := q; exact ⟨q0, q1, qP, va_K.moved (u := U) (U := U.calling g mk a) (Vm.Alike.refl U.vm) qK, qD⟩, va_recv hKc hPc (ci := 11) (q0 := 0) rfl rfl, fun U hU hW => ⟨rfl, by rw [hU], by rw [hU]; exact hPc, va_K.moved hW.alike hKc, hDc.weaken (fun _ _ _ _ => trivial)⟩⟩ rfl rfl hl.1 rfl (lv_room (Nat.le_of_ble_eq_true rfl)) dX11_applyLocal_138 ⟨Nat.le_of_ble_eq_true rfl, Nat.le_of_ble_eq_true rfl⟩) hS (fun q _ h => hFc q h) hFc ?_
            clear hS
            intro r_28 u t H1 locs ht hvm hw hB hz1 hk1 hS
            obtain ⟨⟩ := u
            obtain ⟨hP1, hK1, hD1⟩ := hB
            rw [ht] at hP1
            have hK1 := va_K.moved hvm.symm hK1
            try dsimp only at hw
            have hPD := va_join (wr := [(qf14, .inl (cf14, 30, .inl f14)), (qf1, .inr (4, [.ref qf1_0, .ref qf1_1])), (qf1_1, .inl (cf1_1, 256, .inl f1_1)), (qf5, .inr (3, [.ref qf5_0, .int v5_1, .int v5_2, .int v5_3, .ref qf5_4, .ref qf5_5, .ref qf5_6, .int v5_7, .int v5_8, .int v5_9, .int v5_10, .ref qf5_11, .int v5_12, .ref qf5_13])), (qf5_13, .inl (cf5_13, 144, .inl f5_13))]) (w1 := [(h0, .inr (11, [.ref qf0, .ref qf1, .int v2, .int v3, .int v4, .ref qf5, .int v6, .int v7, .ref qf8, .ref qf9, .ref qf10, .ref qf11, .ref qf12, .ref qf13, .ref qf14, .ref qf15, .int v16, .int v17, .int u11_1, .int u11_2, .int v20])), (qf15, .inl (cf15, 30, .inl f15))]) hP hD [4, 1] [0, 2, 3, 5, 6] rfl rfl (by decide) (by decide) hk1 hFc hP1 hD1
            clear hP hD
            obtain ⟨hP, hD⟩ := hPD
            replace hK := (hK.sub (tys' := [(cf14, .int), (cf1_1, .boolean), (cf5_13, .int)]) [0, 2, 3] rfl).app hK1
            clear hPc hDc hKc hFc hP1 hK1 hD1 hz1 hk1 ht hvm
            generalize H1 = H at hP hS ⊢
            replace hP : va_P (dC, dI) vwCl [(qf14, .inl (cf14, 30, .inl f14)), (qf1, .inr (4, [.ref qf1_0, .ref qf1_1])), (qf1_1, .inl (cf1_1, 256, .inl f1_1)), (qf5, .inr (3, [.ref qf5_0, .int v5_1, .int v5_2, .int v5_3, .ref qf5_4, .ref qf5_5, .ref qf5_6, .int v5_7, .int v5_8, .int v5_9, .int v5_10, .ref qf5_11, .int v5_12, .ref qf5_13])), (qf5_13, .inl (cf5_13, 144, .inl f5_13)), (h0, .inr (11, [.ref qf0, .ref qf1, .int v2, .int v3, .int v4, .ref qf5, .int v6, .int v7, .ref qf8, .ref qf9, .ref qf10, .ref qf11, .ref qf12, .ref qf13, .ref qf14, .ref qf15, .int v16, .int v17, .int u11_1, .int u11_2, .int v20])), (qf15, .inl (cf15, 30, .inl f15))] H := hP
            replace hD : va_D A [(qf14, .inl (cf14, 30, .inl f14)), (qf1, .inr (4, [.ref qf1_0, .ref qf1_1])), (qf1_1, .inl (cf1_1, 256, .inl f1_1)), (qf5, .inr (3, [.ref qf5_0, .int v5_1, .int v5_2, .int v5_3, .ref qf5_4, .ref qf5_5, .ref qf5_6, .int v5_7, .int v5_8, .int v5_9, .int v5_10, .ref qf5_11, .int v5_12, .ref qf5_13])), (qf5_13, .inl (cf5_13, 144, .inl f5_13)), (h0, .inr (11, [.ref qf0, .ref qf1, .int v2, .int v3, .int v4, .ref qf5, .int v6, .int v7, .ref qf8, .ref qf9, .ref qf10, .ref qf11, .ref qf12, .ref qf13, .ref qf14, .ref qf15, .int v16, .int v17, .int u11_1, .int u11_2, .int v20])), (qf15, .inl (cf15, 30, .inl f15))] := hD
            replace hK : va_K (dC, dI) vwCl [(cf14, .int), (cf1_1, .boolean), (cf5_13, .int), (cf15, .int)] s := hK
            obtain rfl := hw
            obtain ⟨hi_29, hsp⟩ := ox_in hsp
            refine va_iast hx hb hK hP hD hS 0 0 rfl rfl (i := a2) (x := u11_0) hi_29 dX11_applyLocal_141 ?_
            clear hP hD hS
            intro H locs hP hD hS
            replace hP : va_P (dC, dI) vwCl [(qf14, .inl (cf14, 30, .inl (upd f14 (a2 : Int32).toNatClampNeg u11_0))), (qf1, .inr (4, [.ref qf1_0, .ref qf1_1])), (qf1_1, .inl (cf1_1, 256, .inl f1_1)), (qf5, .inr (3, [.ref qf5_0, .int v5_1, .int v5_2, .int v5_3, .ref qf5_4, .ref qf5_5, .ref qf5_6, .int v5_7, .int v5_8, .int v5_9, .int v5_10, .ref qf5_11, .int v5_12, .ref qf5_13])), (qf5_13, .inl (cf5_13, 144, .inl f5_13)), (h0, .inr (11, [.ref qf0, .ref qf1, .int v2, .int v3, .int v4, .ref qf5, .int v6, .int v7, .ref qf8, .ref qf9, .ref qf10, .ref qf11, .ref qf12, .ref qf13, .ref qf14, .ref qf15, .int v16, .int v17, .int u11_1, .int u11_2, .int v20])), (qf15, .inl (cf15, 30, .inl f15))] H := hP
            replace hD : va_D A [(qf14, .inl (cf14, 30, .inl (upd f14 (a2 : Int32).toNatClampNeg u11_0))), (qf1, .inr (4, [.ref qf1_0, .ref qf1_1])), (qf1_1, .inl (cf1_1, 256, .inl f1_1)), (qf5, .inr (3, [.ref qf5_0, .int v5_1, .int v5_2, .int v5_3, .ref qf5_4, .ref qf5_5, .ref qf5_6, .int v5_7, .int v5_8, .int v5_9, .int v5_10, .ref qf5_11, .int v5_12, .ref qf5_13])), (qf5_13, .inl (cf5_13, 144, .inl f5_13)), (h0, .inr (11, [.ref qf0, .ref qf1, .int v2, .int v3, .int v4, .ref qf5, .int v6, .int v7, .ref qf8, .ref qf9, .ref qf10, .ref qf11, .ref qf12, .ref qf13, .ref qf14, .ref qf15, .int v16, .int v17, .int u11_1, .int u11_2, .int v20])), (qf15, .inl (cf15, 30, .inl f15))] := hD
            have hr0 := Option.some.inj hsp
            clear hsp
            obtain ⟨hq0, hr1⟩ := Prod.mk.inj hr0
            clear hr0
            obtain ⟨hq1, hr2⟩ := Prod.mk.inj hr1
            clear hr1
            obtain ⟨hq2, hr3⟩ := Prod.mk.inj hr2
            clear hr2
            subst hq0
            subst hq1
            subst hq2
            subst hr3
            have hP9 := hP.sub (ws' := [(h0, .inr (11, [.ref qf0, .ref qf1, .int v2, .int v3, .int v4, .ref qf5, .int v6, .int v7, .ref qf8, .ref qf9, .ref qf10, .ref qf11, .ref qf12, .ref qf13, .ref qf14, .ref qf15, .int v16, .int v17, .int u11_1, .int u11_2, .int v20])), (qf5, .inr (3, [.ref qf5_0, .int v5_1, .int v5_2, .int v5_3, .ref qf5_4, .ref qf5_5, .ref qf5_6, .int v5_7, .int v5_8, .int v5_9, .int v5_10, .ref qf5_11, .int v5_12, .ref qf5_13])), (qf5_13, .inl (cf5_13, 144, .inl f5_13)), (qf14, .inl (cf14, 30, .inl (upd f14 (a2 : Int32).toNatClampNeg u11_0))), (qf15, .inl (cf15, 30, .inl f15)), (qf1, .inr (4, [.ref qf1_0, .ref qf1_1])), (qf1_1, .inl (cf1_1, 256, .inl f1_1))]) [5, 3, 4, 0, 6, 1, 2] rfl
            have hD9 := hD.sub (ws' := [(h0, .inr (11, [.ref qf0, .ref qf1, .int v2, .int v3, .int v4, .ref qf5, .int v6, .int v7, .ref qf8, .ref qf9, .ref qf10, .ref qf11, .ref qf12, .ref qf13, .ref qf14, .ref qf15, .int v16, .int v17, .int u11_1, .int u11_2, .int v20])), (qf5, .inr (3, [.ref qf5_0, .int v5_1, .int v5_2, .int v5_3, .ref qf5_4, .ref qf5_5, .ref qf5_6, .int v5_7, .int v5_8, .int v5_9, .int v5_10, .ref qf5_11, .int v5_12, .ref qf5_13])), (qf5_13, .inl (cf5_13, 144, .inl f5_13)), (qf14, .inl (cf14, 30, .inl (upd f14 (a2 : Int32).toNatClampNeg u11_0))), (qf15, .inl (cf15, 30, .inl f15)), (qf1, .inr (4, [.ref qf1_0, .ref qf1_1])), (qf1_1, .inl (cf1_1, 256, .inl f1_1))]) [5, 3, 4, 0, 6, 1, 2] (by decide) rfl
            have hK9 := hK.sub (tys' := [(cf5_13, .int), (cf14, .int), (cf15, .int), (cf1_1, .boolean)]) [2, 0, 3, 1] rfl
            exact W.vret hx hb hr (fun t ht hW => ⟨⟨(), rfl, trivial, by rw [ht]; exact hP9, va_K.moved hW.alike hK9, hD9⟩, hS.F ht⟩) hS.2.2 dX11_applyLocal_142
          · rw [if_pos c_27] at hsp
            refine lv_aload_n hx hb dX11_applyLocal_113 rfl (lv_at hl 0 rfl) ?_
            refine lv_sipush (v := 301) hx hb dX11_applyLocal_114 (by decide) ?_
            obtain ⟨⟨u12_0, u12_1⟩, hu_12, hsp⟩ := ox_bind hsp
            try dsimp only at hsp
            have hPc := hP.sub (ws' := [(h0, .inr (11, [.ref qf0, .ref qf1, .int v2, .int v3, .int v4, .ref qf5, .int v6, .int v7, .ref qf8, .ref qf9, .ref qf10, .ref qf11, .ref qf12, .ref qf13, .ref qf14, .ref qf15, .int v16, .int v17, .int v18, .int v19, .int v20])), (qf15, .inl (cf15, 30, .inl f15)), (qf1, .inr (4, [.ref qf1_0, .ref qf1_1])), (qf1_1, .inl (cf1_1, 256, .inl f1_1))]) [4, 1, 2, 3] rfl
            have hDc := hD.sub (ws' := [(h0, .inr (11, [.ref qf0, .ref qf1, .int v2, .int v3, .int v4, .ref qf5, .int v6, .int v7, .ref qf8, .ref qf9, .ref qf10, .ref qf11, .ref qf12, .ref qf13, .ref qf14, .ref qf15, .int v16, .int v17, .int v18, .int v19, .int v20])), (qf15, .inl (cf15, 30, .inl f15)), (qf1, .inr (4, [.ref qf1_0, .ref qf1_1])), (qf1_1, .inl (cf1_1, 256, .inl f1_1))]) [4, 1, 2, 3] (by decide) rfl
            have hKc := hK.sub (tys' := [(cf15, .int), (cf1_1, .boolean)]) [1, 2] rfl
            have hFc := va_free (wc := [(h0, .inr (11, [.ref qf0, .ref qf1, .int v2, .int v3, .int v4, .ref qf5, .int v6, .int v7, .ref qf8, .ref qf9, .ref qf10, .ref qf11, .ref qf12, .ref qf13, .ref qf14, .ref qf15, .int v16, .int v17, .int v18, .int v19, .int v20])), (qf15, .inl (cf15, 30, .inl f15)), (qf1, .inr (4, [.ref qf1_0, .ref qf1_1])), (qf1_1, .inl (cf1_1, 256, .inl f1_1))]) hD hS hA [4, 1, 2, 3] rfl
            refine va_callv (va_runV (As := [.int 301]) (rest := []) ⟨hx, hb, hml, hown, hts⟩ (t11_want l dC dI H.size h0 301 qf0 qf1 v2 v3 v4 qf5 v6 v7 qf8 qf9 qf10 qf11 qf12 qf13 qf14 qf15 v16 v17 v18 v19 v20 cf15 f15 qf1_0 qf1_1 cf1_1 f1_1 nf u12_0 u12_1 hu_12) (cwV 1 hts gv_h3_54 rfl rfl rfl (by decide +kernel) ⟨Nat.le_of_ble_eq_true rfl, Nat.le_of_ble_eq_true rfl⟩) ⟨fun a U g mk q => by obtain ⟨q0, q1, qP, qK, qD⟩ := q; exact ⟨q0, q1, qP, va_K.moved (u := U) (U := U.calling g mk a) (Vm.Alike.refl U.vm) qK, qD⟩, va_recv hKc hPc (ci := 11) (q0 := 0) rfl rfl, fun U hU hW => ⟨rfl, by rw [hU], by rw [hU]; exact hPc, va_K.moved hW.alike hKc, hDc.weaken (fun _ _ _ _ => trivial)⟩⟩ rfl rfl hl.1 rfl (lv_room (Nat.le_of_ble_eq_true rfl)) dX11_applyLocal_117 ⟨Nat.le_of_ble_eq_true rfl, Nat.le_of_ble_eq_true rfl⟩) hS (fun q _ h => hFc q h) hFc ?_
            clear hS
            intro u t H1 locs ht hvm hw hB hz1 hk1 hS
            obtain ⟨⟩ := u
            obtain ⟨hP1, hK1, hD1⟩ := hB
            rw [ht] at hP1
            have hK1 := va_K.moved hvm.symm hK1
            try dsimp only at hw
            have hPD := va_join (wr := [(qf14, .inl (cf14, 30, .inl f14)), (qf5, .inr (3, [.ref qf5_0, .int v5_1, .int v5_2, .int v5_3, .ref qf5_4, .ref qf5_5, .ref qf5_6, .int v5_7, .int v5_8, .int v5_9, .int v5_10, .ref qf5_11, .int v5_12, .ref qf5_13])), (qf5_13, .inl (cf5_13, 144, .inl f5_13))]) (w1 := [(h0, .inr (11, [.ref qf0, .ref qf1, .int v2, .int v3, .int v4, .ref qf5, .int v6, .int v7, .ref qf8, .ref qf9, .ref qf10, .ref qf11, .ref qf12, .ref qf13, .ref qf14, .ref qf15, .int v16, .int v17, .int u12_0, .int u12_1, .int v20])), (qf15, .inl (cf15, 30, .inl f15)), (qf1, .inr (4, [.ref qf1_0, .ref qf1_1])), (qf1_1, .inl (cf1_1, 256, .inl f1_1))]) hP hD [4, 1, 2, 3] [0, 5, 6] rfl rfl (by decide) (by decide) hk1 hFc hP1 hD1
            clear hP hD
            obtain ⟨hP, hD⟩ := hPD
            replace hK := (hK.sub (tys' := [(cf14, .int), (cf5_13, .int)]) [0, 3] rfl).app hK1
            clear hPc hDc hKc hFc hP1 hK1 hD1 hz1 hk1 ht hvm
            generalize H1 = H at hP hS ⊢
            replace hP : va_P (dC, dI) vwCl [(qf14, .inl (cf14, 30, .inl f14)), (qf5, .inr (3, [.ref qf5_0, .int v5_1, .int v5_2, .int v5_3, .ref qf5_4, .ref qf5_5, .ref qf5_6, .int v5_7, .int v5_8, .int v5_9, .int v5_10, .ref qf5_11, .int v5_12, .ref qf5_13])), (qf5_13, .inl (cf5_13, 144, .inl f5_13)), (h0, .inr (11, [.ref qf0, .ref qf1, .int v2, .int v3, .int v4, .ref qf5, .int v6, .int v7, .ref qf8, .ref qf9, .ref qf10, .ref qf11, .ref qf12, .ref qf13, .ref qf14, .ref qf15, .int v16, .int v17, .int u12_0, .int u12_1, .int v20])), (qf15, .inl (cf15, 30, .inl f15)), (qf1, .inr (4, [.ref qf1_0, .ref qf1_1])), (qf1_1, .inl (cf1_1, 256, .inl f1_1))] H := hP
            replace hD : va_D A [(qf14, .inl (cf14, 30, .inl f14)), (qf5, .inr (3, [.ref qf5_0, .int v5_1, .int v5_2, .int v5_3, .ref qf5_4, .ref qf5_5, .ref qf5_6, .int v5_7, .int v5_8, .int v5_9, .int v5_10, .ref qf5_11, .int v5_12, .ref qf5_13])), (qf5_13, .inl (cf5_13, 144, .inl f5_13)), (h0, .inr (11, [.ref qf0, .ref qf1, .int v2, .int v3, .int v4, .ref qf5, .int v6, .int v7, .ref qf8, .ref qf9, .ref qf10, .ref qf11, .ref qf12, .ref qf13, .ref qf14, .ref qf15, .int v16, .int v17, .int u12_0, .int u12_1, .int v20])), (qf15, .inl (cf15, 30, .inl f15)), (qf1, .inr (4, [.ref qf1_0, .ref qf1_1])), (qf1_1, .inl (cf1_1, 256, .inl f1_1))] := hD
            replace hK : va_K (dC, dI) vwCl [(cf14, .int), (cf5_13, .int), (cf15, .int), (cf1_1, .boolean)] s := hK
            refine lv_aload_n hx hb dX11_applyLocal_120 rfl (lv_at hl 0 rfl) ?_
            refine va_get (D := (dC, dI)) (ci := 11) (v := .ref qf14) (C := RX11) (T := TX11) (N := 21) hx hb hts uV_h3_X11 hown hK hP 3 rfl rfl 14 (by decide) (hts (.fieldLink RX11 44 "ClassMill$Verifier" "locals" "[I") mw_h3_205) (fun _ h9 => h9) rfl dX11_applyLocal_121 ?_
            refine lv_iload_n hx hb dX11_applyLocal_124 rfl (lv_at hl 2 rfl) ?_
            refine lv_sipush (v := 301) hx hb dX11_applyLocal_125 (by decide) ?_
            obtain ⟨hi_30, hsp⟩ := ox_in hsp
            refine va_iast hx hb hK hP hD hS 0 0 rfl rfl (i := a2) (x := 301) hi_30 dX11_applyLocal_128 ?_
            clear hP hD hS
            intro H locs hP hD hS
            replace hP : va_P (dC, dI) vwCl [(qf14, .inl (cf14, 30, .inl (upd f14 (a2 : Int32).toNatClampNeg 301))), (qf5, .inr (3, [.ref qf5_0, .int v5_1, .int v5_2, .int v5_3, .ref qf5_4, .ref qf5_5, .ref qf5_6, .int v5_7, .int v5_8, .int v5_9, .int v5_10, .ref qf5_11, .int v5_12, .ref qf5_13])), (qf5_13, .inl (cf5_13, 144, .inl f5_13)), (h0, .inr (11, [.ref qf0, .ref qf1, .int v2, .int v3, .int v4, .ref qf5, .int v6, .int v7, .ref qf8, .ref qf9, .ref qf10, .ref qf11, .ref qf12, .ref qf13, .ref qf14, .ref qf15, .int v16, .int v17, .int u12_0, .int u12_1, .int v20])), (qf15, .inl (cf15, 30, .inl f15)), (qf1, .inr (4, [.ref qf1_0, .ref qf1_1])), (qf1_1, .inl (cf1_1, 256, .inl f1_1))] H := hP
            replace hD : va_D A [(qf14, .inl (cf14, 30, .inl (upd f14 (a2 : Int32).toNatClampNeg 301))), (qf5, .inr (3, [.ref qf5_0, .int v5_1, .int v5_2, .int v5_3, .ref qf5_4, .ref qf5_5, .ref qf5_6, .int v5_7, .int v5_8, .int v5_9, .int v5_10, .ref qf5_11, .int v5_12, .ref qf5_13])), (qf5_13, .inl (cf5_13, 144, .inl f5_13)), (h0, .inr (11, [.ref qf0, .ref qf1, .int v2, .int v3, .int v4, .ref qf5, .int v6, .int v7, .ref qf8, .ref qf9, .ref qf10, .ref qf11, .ref qf12, .ref qf13, .ref qf14, .ref qf15, .int v16, .int v17, .int u12_0, .int u12_1, .int v20])), (qf15, .inl (cf15, 30, .inl f15)), (qf1, .inr (4, [.ref qf1_0, .ref qf1_1])), (qf1_1, .inl (cf1_1, 256, .inl f1_1))] := hD
            refine lv_goto (tgt := 142) hx hb dX11_applyLocal_129 (by decide) ?_
            have hr0 := Option.some.inj hsp
            clear hsp
            obtain ⟨hq0, hr1⟩ := Prod.mk.inj hr0
            clear hr0
            obtain ⟨hq1, hr2⟩ := Prod.mk.inj hr1
            clear hr1
            obtain ⟨hq2, hr3⟩ := Prod.mk.inj hr2
            clear hr2
            subst hq0
            subst hq1
            subst hq2
            subst hr3
            have hP9 := hP.sub (ws' := [(h0, .inr (11, [.ref qf0, .ref qf1, .int v2, .int v3, .int v4, .ref qf5, .int v6, .int v7, .ref qf8, .ref qf9, .ref qf10, .ref qf11, .ref qf12, .ref qf13, .ref qf14, .ref qf15, .int v16, .int v17, .int u12_0, .int u12_1, .int v20])), (qf5, .inr (3, [.ref qf5_0, .int v5_1, .int v5_2, .int v5_3, .ref qf5_4, .ref qf5_5, .ref qf5_6, .int v5_7, .int v5_8, .int v5_9, .int v5_10, .ref qf5_11, .int v5_12, .ref qf5_13])), (qf5_13, .inl (cf5_13, 144, .inl f5_13)), (qf14, .inl (cf14, 30, .inl (upd f14 (a2 : Int32).toNatClampNeg 301))), (qf15, .inl (cf15, 30, .inl f15)), (qf1, .inr (4, [.ref qf1_0, .ref qf1_1])), (qf1_1, .inl (cf1_1, 256, .inl f1_1))]) [3, 1, 2, 0, 4, 5, 6] rfl
            have hD9 := hD.sub (ws' := [(h0, .inr (11, [.ref qf0, .ref qf1, .int v2, .int v3, .int v4, .ref qf5, .int v6, .int v7, .ref qf8, .ref qf9, .ref qf10, .ref qf11, .ref qf12, .ref qf13, .ref qf14, .ref qf15, .int v16, .int v17, .int u12_0, .int u12_1, .int v20])), (qf5, .inr (3, [.ref qf5_0, .int v5_1, .int v5_2, .int v5_3, .ref qf5_4, .ref qf5_5, .ref qf5_6, .int v5_7, .int v5_8, .int v5_9, .int v5_10, .ref qf5_11, .int v5_12, .ref qf5_13])), (qf5_13, .inl (cf5_13, 144, .inl f5_13)), (qf14, .inl (cf14, 30, .inl (upd f14 (a2 : Int32).toNatClampNeg 301))), (qf15, .inl (cf15, 30, .inl f15)), (qf1, .inr (4, [.ref qf1_0, .ref qf1_1])), (qf1_1, .inl (cf1_1, 256, .inl f1_1))]) [3, 1, 2, 0, 4, 5, 6] (by decide) rfl
            have hK9 := hK.sub (tys' := [(cf5_13, .int), (cf14, .int), (cf15, .int), (cf1_1, .boolean)]) [1, 0, 2, 3] rfl
            exact W.vret hx hb hr (fun t ht hW => ⟨⟨(), rfl, trivial, by rw [ht]; exact hP9, va_K.moved hW.alike hK9, hD9⟩, hS.F ht⟩) hS.2.2 dX11_applyLocal_142
        · rw [if_pos c_26] at hsp
          refine lv_iload_n hx hb dX11_applyLocal_38 rfl (lv_at hl 1 rfl) ?_
          refine lv_bipush (v := 21) hx hb dX11_applyLocal_39 (by decide) ?_
          refine lv_icmp_ne (tgt := 64) hx hb dX11_applyLocal_41 (by decide) (fun c_31 => ?_) (fun c_31 => ?_)
          · rw [if_neg c_31] at hsp
            refine lv_aload_n hx hb dX11_applyLocal_64 rfl (lv_at hl 0 rfl) ?_
            refine va_get (D := (dC, dI)) (ci := 11) (v := .ref qf14) (C := RX11) (T := TX11) (N := 21) hx hb hts uV_h3_X11 hown hK hP 4 rfl rfl 14 (by decide) (hts (.fieldLink RX11 44 "ClassMill$Verifier" "locals" "[I") mw_h3_205) (fun _ h9 => h9) rfl dX11_applyLocal_65 ?_
            refine lv_iload_n hx hb dX11_applyLocal_68 rfl (lv_at hl 2 rfl) ?_
            obtain ⟨hi_32, hsp⟩ := ox_in hsp
            refine va_iald hx hb hK hP 0 0 rfl rfl (i := a2) hi_32 dX11_applyLocal_69 ?_
            obtain ⟨u13_0, hu_13, hsp⟩ := ox_bind hsp
            try dsimp only at hsp
            have hPc := hP.sub (ws' := []) [] rfl
            have hDc := hD.sub (ws' := []) [] (by decide) rfl
            have hKc := hK.sub (tys' := []) [] rfl
            have hFc := va_free (wc := []) hD hS hA [] rfl
            refine va_calli (va_runS (As := [.int (f14 (a2 : Int32).toNatClampNeg)]) (rest := []) ⟨hx, hb, hml, hown, hts⟩ (t4_isReference l dC dI H.size ((f14 (a2 : Int32).toNatClampNeg)) nf u13_0 hu_13) (va_cwS 1 hts gv_h3_50 rfl rfl rfl (by decide +kernel) ⟨Nat.le_of_ble_eq_true rfl, Nat.le_of_ble_eq_true rfl⟩) ⟨fun a U g mk q => by obtain ⟨q0, q1, qP, qK, qD⟩ := q; exact ⟨q0, q1, qP, va_K.moved (u := U) (U := U.calling g mk a) (Vm.Alike.refl U.vm) qK, qD⟩, fun U hU hW => ⟨rfl, by rw [hU], by rw [hU]; exact hPc, va_K.moved hW.alike hKc, hDc.weaken (fun _ _ _ _ => trivial)⟩⟩ rfl rfl hl.1 rfl (lv_room (Nat.le_of_ble_eq_true rfl)) dX11_applyLocal_70 ⟨Nat.le_of_ble_eq_true rfl, Nat.le_of_ble_eq_true rfl⟩) hS (fun q _ h => hFc q h) hFc ?_
            clear hS
            intro r_33 u t H1 locs ht hvm hw hB hz1 hk1 hS
            obtain ⟨⟩ := u
            obtain ⟨hP1, hK1, hD1⟩ := hB
            rw [ht] at hP1
            have hK1 := va_K.moved hvm.symm hK1
            try dsimp only at hw
            have hPD := va_join (wr := [(qf14, .inl (cf14, 30, .inl f14)), (qf15, .inl (cf15, 30, .inl f15)), (qf1, .inr (4, [.ref qf1_0, .ref qf1_1])), (qf1_1, .inl (cf1_1, 256, .inl f1_1)), (h0, .inr (11, [.ref qf0, .ref qf1, .int v2, .int v3, .int v4, .ref qf5, .int v6, .int v7, .ref qf8, .ref qf9, .ref qf10, .ref qf11, .ref qf12, .ref qf13, .ref qf14, .ref qf15, .int v16, .int v17, .int v18, .int v19, .int v20])), (qf5, .inr (3, [.ref qf5_0, .int v5_1, .int v5_2, .int v5_3, .ref qf5_4, .ref qf5_5, .ref qf5_6, .int v5_7, .int v5_8, .int v5_9, .int v5_10, .ref qf5_11, .int v5_12, .ref qf5_13])), (qf5_13, .inl (cf5_13, 144, .inl f5_13))]) (w1 := []) hP hD [] [0, 1, 2, 3, 4, 5, 6] rfl rfl (by decide) (by decide) hk1 hFc hP1 hD1
            clear hP hD
            obtain ⟨hP, hD⟩ := hPD
            replace hK := (hK.sub (tys' := [(cf14, .int), (cf15, .int), (cf1_1, .boolean), (cf5_13, .int)]) [0, 1, 2, 3] rfl).app hK1
            clear hPc hDc hKc hFc hP1 hK1 hD1 hz1 hk1 ht hvm
            generalize H1 = H at hP hS ⊢
            replace hP : va_P (dC, dI) vwCl [(qf14, .inl (cf14, 30, .inl f14)), (qf15, .inl (cf15, 30, .inl f15)), (qf1, .inr (4, [.ref qf1_0, .ref qf1_1])), (qf1_1, .inl (cf1_1, 256, .inl f1_1)), (h0, .inr (11, [.ref qf0, .ref qf1, .int v2, .int v3, .int v4, .ref qf5, .int v6, .int v7, .ref qf8, .ref qf9, .ref qf10, .ref qf11, .ref qf12, .ref qf13, .ref qf14, .ref qf15, .int v16, .int v17, .int v18, .int v19, .int v20])), (qf5, .inr (3, [.ref qf5_0, .int v5_1, .int v5_2, .int v5_3, .ref qf5_4, .ref qf5_5, .ref qf5_6, .int v5_7, .int v5_8, .int v5_9, .int v5_10, .ref qf5_11, .int v5_12, .ref qf5_13])), (qf5_13, .inl (cf5_13, 144, .inl f5_13))] H := hP
            replace hD : va_D A [(qf14, .inl (cf14, 30, .inl f14)), (qf15, .inl (cf15, 30, .inl f15)), (qf1, .inr (4, [.ref qf1_0, .ref qf1_1])), (qf1_1, .inl (cf1_1, 256, .inl f1_1)), (h0, .inr (11, [.ref qf0, .ref qf1, .int v2, .int v3, .int v4, .ref qf5, .int v6, .int v7, .ref qf8, .ref qf9, .ref qf10, .ref qf11, .ref qf12, .ref qf13, .ref qf14, .ref qf15, .int v16, .int v17, .int v18, .int v19, .int v20])), (qf5, .inr (3, [.ref qf5_0, .int v5_1, .int v5_2, .int v5_3, .ref qf5_4, .ref qf5_5, .ref qf5_6, .int v5_7, .int v5_8, .int v5_9, .int v5_10, .ref qf5_11, .int v5_12, .ref qf5_13])), (qf5_13, .inl (cf5_13, 144, .inl f5_13))] := hD
            replace hK : va_K (dC, dI) vwCl [(cf14, .int), (cf15, .int), (cf1_1, .boolean), (cf5_13, .int)] s := hK
            obtain ⟨rfl, hz_13⟩ := hw
            rcases hz_13 with rfl | rfl
            · rw [if_pos rfl] at hsp
              refine lv_istore_n (lv' := [(3, .int 0), (0, .ref h0), (1, .int a1), (2, .int a2)]) hx hb dX11_applyLocal_73 rfl hl (by decide) rfl (fun ls hl => ?_)
              refine lv_aload_n hx hb dX11_applyLocal_74 rfl (lv_at hl 1 rfl) ?_
              refine lv_aload_n hx hb dX11_applyLocal_75 rfl (lv_at hl 1 rfl) ?_
              refine va_get (D := (dC, dI)) (ci := 11) (v := .int v19) (C := RX11) (T := TX11) (N := 21) hx hb hts uV_h3_X11 hown hK hP 4 rfl rfl 19 (by decide) (hts (.fieldLink RX11 295 "ClassMill$Verifier" "fitting" "Z") mw_h3_220) (fun _ h9 => h9) rfl dX11_applyLocal_76 ?_
              refine lv_if_eq (tgt := 90) hx hb dX11_applyLocal_79 (by decide) (fun c_34 => ?_) (fun c_34 => ?_)
              · rw [if_pos c_34] at hsp
                refine lv_iconst (v := 0) hx hb dX11_applyLocal_90 (by decide) ?_
                refine va_put (D := (dC, dI)) (ci := 11) (v := .int 0) (ty := .boolean) (C := RX11) (T := TX11) (N := 21) hx hb hts uV_h3_X11 tyX11 tyX11_ok nmX11 hown hK hP hD hS 4 rfl rfl 19 (by decide) (hts (.fieldLink RX11 295 "ClassMill$Verifier" "fitting" "Z") mw_h3_220) (fun _ h9 => h9) rfl (by decide +kernel) rfl rfl (Nat.le_of_ble_eq_true rfl) dX11_applyLocal_91 ?_
                clear hP hD hS
                intro H locs hP hD hS
                replace hP : va_P (dC, dI) vwCl [(qf14, .inl (cf14, 30, .inl f14)), (qf15, .inl (cf15, 30, .inl f15)), (qf1, .inr (4, [.ref qf1_0, .ref qf1_1])), (qf1_1, .inl (cf1_1, 256, .inl f1_1)), (h0, .inr (11, [.ref qf0, .ref qf1, .int v2, .int v3, .int v4, .ref qf5, .int v6, .int v7, .ref qf8, .ref qf9, .ref qf10, .ref qf11, .ref qf12, .ref qf13, .ref qf14, .ref qf15, .int v16, .int v17, .int v18, .int 0, .int v20])), (qf5, .inr (3, [.ref qf5_0, .int v5_1, .int v5_2, .int v5_3, .ref qf5_4, .ref qf5_5, .ref qf5_6, .int v5_7, .int v5_8, .int v5_9, .int v5_10, .ref qf5_11, .int v5_12, .ref qf5_13])), (qf5_13, .inl (cf5_13, 144, .inl f5_13))] H := hP
                replace hD : va_D A [(qf14, .inl (cf14, 30, .inl f14)), (qf15, .inl (cf15, 30, .inl f15)), (qf1, .inr (4, [.ref qf1_0, .ref qf1_1])), (qf1_1, .inl (cf1_1, 256, .inl f1_1)), (h0, .inr (11, [.ref qf0, .ref qf1, .int v2, .int v3, .int v4, .ref qf5, .int v6, .int v7, .ref qf8, .ref qf9, .ref qf10, .ref qf11, .ref qf12, .ref qf13, .ref qf14, .ref qf15, .int v16, .int v17, .int v18, .int 0, .int v20])), (qf5, .inr (3, [.ref qf5_0, .int v5_1, .int v5_2, .int v5_3, .ref qf5_4, .ref qf5_5, .ref qf5_6, .int v5_7, .int v5_8, .int v5_9, .int v5_10, .ref qf5_11, .int v5_12, .ref qf5_13])), (qf5_13, .inl (cf5_13, 144, .inl f5_13))] := hD
                refine lv_aload_n hx hb dX11_applyLocal_94 rfl (lv_at hl 1 rfl) ?_
                refine lv_aload_n hx hb dX11_applyLocal_95 rfl (lv_at hl 1 rfl) ?_
                refine va_get (D := (dC, dI)) (ci := 11) (v := .ref qf14) (C := RX11) (T := TX11) (N := 21) hx hb hts uV_h3_X11 hown hK hP 4 rfl rfl 14 (by decide) (hts (.fieldLink RX11 44 "ClassMill$Verifier" "locals" "[I") mw_h3_205) (fun _ h9 => h9) rfl dX11_applyLocal_96 ?_
                refine lv_iload_n hx hb dX11_applyLocal_99 rfl (lv_at hl 3 rfl) ?_
                obtain ⟨hi_35, hsp⟩ := ox_in hsp
                refine va_iald hx hb hK hP 0 0 rfl rfl (i := a2) hi_35 dX11_applyLocal_100 ?_
                obtain ⟨⟨g914_0, u14_1, u14_2⟩, hu_14, hsp⟩ := ox_bind hsp
                try dsimp only at hsp
                have hPc := hP.sub (ws' := [(h0, .inr (11, [.ref qf0, .ref qf1, .int v2, .int v3, .int v4, .ref qf5, .int v6, .int v7, .ref qf8, .ref qf9, .ref qf10, .ref qf11, .ref qf12, .ref qf13, .ref qf14, .ref qf15, .int v16, .int v17, .int v18, .int 0, .int v20])), (qf15, .inl (cf15, 30, .inl f15))]) [4, 1] rfl
                have hDc := hD.sub (ws' := [(h0, .inr (11, [.ref qf0, .ref qf1, .int v2, .int v3, .int v4, .ref qf5, .int v6, .int v7, .ref qf8, .ref qf9, .ref qf10, .ref qf11, .ref qf12, .ref qf13, .ref qf14, .ref qf15, .int v16, .int v17, .int v18, .int 0, .int v20])), (qf15, .inl (cf15, 30, .inl f15))]) [4, 1] (by decide) rfl
                have hKc := hK.sub (tys' := [(cf15, .int)]) [1] rfl
                have hFc := va_free (wc := [(h0, .inr (11, [.ref qf0, .ref qf1, .int v2, .int v3, .int v4, .ref qf5, .int v6, .int v7, .ref qf8, .ref qf9, .ref qf10, .ref qf11, .ref qf12, .ref qf13, .ref qf14, .ref qf15, .int v16, .int v17, .int v18, .int 0, .int v20])), (qf15, .inl (cf15, 30, .inl f15))]) hD hS hA [4, 1] rfl
                refine va_callv (va_runV (As := [.int (f14 (a2 : Int32).toNatClampNeg)]) (rest := []) ⟨hx, hb, hml, hown, hts⟩ (t11_push l dC dI H.size h0 ((f14 (a2 : Int32).toNatClampNeg)) qf0 qf1 v2 v3 v4 qf5 v6 v7 qf8 qf9 qf10 qf11 qf12 qf13 qf14 qf15 v16 v17 v18 0 v20 cf15 f15 nf g914_0 u14_1 u14_2 hu_14) (cwV 1 hts gv_h3_52 rfl rfl rfl (by decide +kernel) ⟨Nat.le_of_ble_eq_true rfl, Nat.le_of_ble_eq_true rfl⟩) ⟨fun a U g mk q => by obtain ⟨q0, q1, qP, qK, qD⟩ := q; exact ⟨q0, q1, qP, va_K.moved (u := U) (U := U.calling g mk a) (Vm.Alike.refl U.vm) qK, qD⟩, va_recv hKc hPc (ci := 11) (q0 := 0) rfl rfl, fun U hU hW => ⟨rfl, by rw [hU], by rw [hU]; exact hPc, va_K.moved hW.alike hKc, hDc.weaken (fun _ _ _ _ => trivial)⟩⟩ rfl rfl hl.1 rfl (lv_room (Nat.le_of_ble_eq_true rfl)) dX11_applyLocal_101 ⟨Nat.le_of_ble_eq_true rfl, Nat.le_of_ble_eq_true rfl⟩) hS (fun q _ h => hFc q h) hFc ?_
                clear hS
                intro u t H1 locs ht hvm hw hB hz1 hk1 hS
                obtain ⟨⟩ := u
                obtain ⟨hP1, hK1, hD1⟩ := hB
                rw [ht] at hP1
                have hK1 := va_K.moved hvm.symm hK1
                try dsimp only at hw
                have hPD := va_join (wr := [(qf14, .inl (cf14, 30, .inl f14)), (qf1, .inr (4, [.ref qf1_0, .ref qf1_1])), (qf1_1, .inl (cf1_1, 256, .inl f1_1)), (qf5, .inr (3, [.ref qf5_0, .int v5_1, .int v5_2, .int v5_3, .ref qf5_4, .ref qf5_5, .ref qf5_6, .int v5_7, .int v5_8, .int v5_9, .int v5_10, .ref qf5_11, .int v5_12, .ref qf5_13])), (qf5_13, .inl (cf5_13, 144, .inl f5_13))]) (w1 := [(h0, .inr (11, [.ref qf0, .ref qf1, .int v2, .int v3, .int v4, .ref qf5, .int v6, .int v7, .ref qf8, .ref qf9, .ref qf10, .ref qf11, .ref qf12, .ref qf13, .ref qf14, .ref qf15, .int v16, .int v17, .int u14_1, .int u14_2, .int v20])), (qf15, .inl (cf15, 30, .inl g914_0))]) hP hD [4, 1] [0, 2, 3, 5, 6] rfl rfl (by decide) (by decide) hk1 hFc hP1 hD1
                clear hP hD
                obtain ⟨hP, hD⟩ := hPD
                replace hK := (hK.sub (tys' := [(cf14, .int), (cf1_1, .boolean), (cf5_13, .int)]) [0, 2, 3] rfl).app hK1
                clear hPc hDc hKc hFc hP1 hK1 hD1 hz1 hk1 ht hvm
                generalize H1 = H at hP hS ⊢
                replace hP : va_P (dC, dI) vwCl [(qf14, .inl (cf14, 30, .inl f14)), (qf1, .inr (4, [.ref qf1_0, .ref qf1_1])), (qf1_1, .inl (cf1_1, 256, .inl f1_1)), (qf5, .inr (3, [.ref qf5_0, .int v5_1, .int v5_2, .int v5_3, .ref qf5_4, .ref qf5_5, .ref qf5_6, .int v5_7, .int v5_8, .int v5_9, .int v5_10, .ref qf5_11, .int v5_12, .ref qf5_13])), (qf5_13, .inl (cf5_13, 144, .inl f5_13)), (h0, .inr (11, [.ref qf0, .ref qf1, .int v2, .int v3, .int v4, .ref qf5, .int v6, .int v7, .ref qf8, .ref qf9, .ref qf10, .ref qf11, .ref qf12, .ref qf13, .ref qf14, .ref qf15, .int v16, .int v17, .int u14_1, .int u14_2, .int v20])), (qf15, .inl (cf15, 30, .inl g914_0))] H := hP
                replace hD : va_D A [(qf14, .inl (cf14, 30, .inl f14)), (qf1, .inr (4, [.ref qf1_0, .ref qf1_1])), (qf1_1, .inl (cf1_1, 256, .inl f1_1)), (qf5, .inr (3, [.ref qf5_0, .int v5_1, .int v5_2, .int v5_3, .ref qf5_4, .ref qf5_5, .ref qf5_6, .int v5_7, .int v5_8, .int v5_9, .int v5_10, .ref qf5_11, .int v5_12, .ref qf5_13])), (qf5_13, .inl (cf5_13, 144, .inl f5_13)), (h0, .inr (11, [.ref qf0, .ref qf1, .int v2, .int v3, .int v4, .ref qf5, .int v6, .int v7, .ref qf8, .ref qf9, .ref qf10, .ref qf11, .ref qf12, .ref qf13, .ref qf14, .ref qf15, .int v16, .int v17, .int u14_1, .int u14_2, .int v20])), (qf15, .inl (cf15, 30, .inl g914_0))] := hD
                replace hK : va_K (dC, dI) vwCl [(cf14, .int), (cf1_1, .boolean), (cf5_13, .int), (cf15, .int)] s := hK
                refine lv_goto (tgt := 142) hx hb dX11_applyLocal_104 (by decide) ?_
                have hr0 := Option.some.inj hsp
                clear hsp
                obtain ⟨hq0, hr1⟩ := Prod.mk.inj hr0
                clear hr0
                obtain ⟨hq1, hr2⟩ := Prod.mk.inj hr1
                clear hr1
                obtain ⟨hq2, hr3⟩ := Prod.mk.inj hr2
                clear hr2
                subst hq0
                subst hq1
                subst hq2
                subst hr3
                have hP9 := hP.sub (ws' := [(h0, .inr (11, [.ref qf0, .ref qf1, .int v2, .int v3, .int v4, .ref qf5, .int v6, .int v7, .ref qf8, .ref qf9, .ref qf10, .ref qf11, .ref qf12, .ref qf13, .ref qf14, .ref qf15, .int v16, .int v17, .int u14_1, .int u14_2, .int v20])), (qf5, .inr (3, [.ref qf5_0, .int v5_1, .int v5_2, .int v5_3, .ref qf5_4, .ref qf5_5, .ref qf5_6, .int v5_7, .int v5_8, .int v5_9, .int v5_10, .ref qf5_11, .int v5_12, .ref qf5_13])), (qf5_13, .inl (cf5_13, 144, .inl f5_13)), (qf14, .inl (cf14, 30, .inl f14)), (qf15, .inl (cf15, 30, .inl g914_0)), (qf1, .inr (4, [.ref qf1_0, .ref qf1_1])), (qf1_1, .inl (cf1_1, 256, .inl f1_1))]) [5, 3, 4, 0, 6, 1, 2] rfl
                have hD9 := hD.sub (ws' := [(h0, .inr (11, [.ref qf0, .ref qf1, .int v2, .int v3, .int v4, .ref qf5, .int v6, .int v7, .ref qf8, .ref qf9, .ref qf10, .ref qf11, .ref qf12, .ref qf13, .ref qf14, .ref qf15, .int v16, .int v17, .int u14_1, .int u14_2, .int v20])), (qf5, .inr (3, [.ref qf5_0, .int v5_1, .int v5_2, .int v5_3, .ref qf5_4, .ref qf5_5, .ref qf5_6, .int v5_7, .int v5_8, .int v5_9, .int v5_10, .ref qf5_11, .int v5_12, .ref qf5_13])), (qf5_13, .inl (cf5_13, 144, .inl f5_13)), (qf14, .inl (cf14, 30, .inl f14)), (qf15, .inl (cf15, 30, .inl g914_0)), (qf1, .inr (4, [.ref qf1_0, .ref qf1_1])), (qf1_1, .inl (cf1_1, 256, .inl f1_1))]) [5, 3, 4, 0, 6, 1, 2] (by decide) rfl
                have hK9 := hK.sub (tys' := [(cf5_13, .int), (cf14, .int), (cf15, .int), (cf1_1, .boolean)]) [2, 0, 3, 1] rfl
                exact W.vret hx hb hr (fun t ht hW => ⟨⟨(), rfl, trivial, by rw [ht]; exact hP9, va_K.moved hW.alike hK9, hD9⟩, hS.F ht⟩) hS.2.2 dX11_applyLocal_142
              · rw [if_neg c_34] at hsp
                refine lv_iload_n hx hb dX11_applyLocal_82 rfl (lv_at hl 0 rfl) ?_
                refine lv_if_eq (tgt := 90) hx hb dX11_applyLocal_83 (by decide) (fun c_36 => ?_) (fun c_36 => (show False by revert c_36; decide).elim)
                refine lv_iconst (v := 0) hx hb dX11_applyLocal_90 (by decide) ?_
                refine va_put (D := (dC, dI)) (ci := 11) (v := .int 0) (ty := .boolean) (C := RX11) (T := TX11) (N := 21) hx hb hts uV_h3_X11 tyX11 tyX11_ok nmX11 hown hK hP hD hS 4 rfl rfl 19 (by decide) (hts (.fieldLink RX11 295 "ClassMill$Verifier" "fitting" "Z") mw_h3_220) (fun _ h9 => h9) rfl (by decide +kernel) rfl rfl (Nat.le_of_ble_eq_true rfl) dX11_applyLocal_91 ?_
                clear hP hD hS
                intro H locs hP hD hS
                replace hP : va_P (dC, dI) vwCl [(qf14, .inl (cf14, 30, .inl f14)), (qf15, .inl (cf15, 30, .inl f15)), (qf1, .inr (4, [.ref qf1_0, .ref qf1_1])), (qf1_1, .inl (cf1_1, 256, .inl f1_1)), (h0, .inr (11, [.ref qf0, .ref qf1, .int v2, .int v3, .int v4, .ref qf5, .int v6, .int v7, .ref qf8, .ref qf9, .ref qf10, .ref qf11, .ref qf12, .ref qf13, .ref qf14, .ref qf15, .int v16, .int v17, .int v18, .int 0, .int v20])), (qf5, .inr (3, [.ref qf5_0, .int v5_1, .int v5_2, .int v5_3, .ref qf5_4, .ref qf5_5, .ref qf5_6, .int v5_7, .int v5_8, .int v5_9, .int v5_10, .ref qf5_11, .int v5_12, .ref qf5_13])), (qf5_13, .inl (cf5_13, 144, .inl f5_13))] H := hP
                replace hD : va_D A [(qf14, .inl (cf14, 30, .inl f14)), (qf15, .inl (cf15, 30, .inl f15)), (qf1, .inr (4, [.ref qf1_0, .ref qf1_1])), (qf1_1, .inl (cf1_1, 256, .inl f1_1)), (h0, .inr (11, [.ref qf0, .ref qf1, .int v2, .int v3, .int v4, .ref qf5, .int v6, .int v7, .ref qf8, .ref qf9, .ref qf10, .ref qf11, .ref qf12, .ref qf13, .ref qf14, .ref qf15, .int v16, .int v17, .int v18, .int 0, .int v20])), (qf5, .inr (3, [.ref qf5_0, .int v5_1, .int v5_2, .int v5_3, .ref qf5_4, .ref qf5_5, .ref qf5_6, .int v5_7, .int v5_8, .int v5_9, .int v5_10, .ref qf5_11, .int v5_12, .ref qf5_13])), (qf5_13, .inl (cf5_13, 144, .inl f5_13))] := hD
                refine lv_aload_n hx hb dX11_applyLocal_94 rfl (lv_at hl 1 rfl) ?_
                refine lv_aload_n hx hb dX11_applyLocal_95 rfl (lv_at hl 1 rfl) ?_
                refine va_get (D := (dC, dI)) (ci := 11) (v := .ref qf14) (C := RX11) (T := TX11) (N := 21) hx hb hts uV_h3_X11 hown hK hP 4 rfl rfl 14 (by decide) (hts (.fieldLink RX11 44 "ClassMill$Verifier" "locals" "[I") mw_h3_205) (fun _ h9 => h9) rfl dX11_applyLocal_96 ?_
                refine lv_iload_n hx hb dX11_applyLocal_99 rfl (lv_at hl 3 rfl) ?_
                obtain ⟨hi_37, hsp⟩ := ox_in hsp
                refine va_iald hx hb hK hP 0 0 rfl rfl (i := a2) hi_37 dX11_applyLocal_100 ?_
                obtain ⟨⟨g915_0, u15_1, u15_2⟩, hu_15, hsp⟩ := ox_bind hsp
                try dsimp only at hsp
                have hPc := hP.sub (ws' := [(h0, .inr (11, [.ref qf0, .ref qf1, .int v2, .int v3, .int v4, .ref qf5, .int v6, .int v7, .ref qf8, .ref qf9, .ref qf10, .ref qf11, .ref qf12, .ref qf13, .ref qf14, .ref qf15, .int v16, .int v17, .int v18, .int 0, .int v20])), (qf15, .inl (cf15, 30, .inl f15))]) [4, 1] rfl
                have hDc := hD.sub (ws' := [(h0, .inr (11, [.ref qf0, .ref qf1, .int v2, .int v3, .int v4, .ref qf5, .int v6, .int v7, .ref qf8, .ref qf9, .ref qf10, .ref qf11, .ref qf12, .ref qf13, .ref qf14, .ref qf15, .int v16, .int v17, .int v18, .int 0, .int v20])), (qf15, .inl (cf15, 30, .inl f15))]) [4, 1] (by decide) rfl
                have hKc := hK.sub (tys' := [(cf15, .int)]) [1] rfl
                have hFc := va_free (wc := [(h0, .inr (11, [.ref qf0, .ref qf1, .int v2, .int v3, .int v4, .ref qf5, .int v6, .int v7, .ref qf8, .ref qf9, .ref qf10, .ref qf11, .ref qf12, .ref qf13, .ref qf14, .ref qf15, .int v16, .int v17, .int v18, .int 0, .int v20])), (qf15, .inl (cf15, 30, .inl f15))]) hD hS hA [4, 1] rfl
                refine va_callv (va_runV (As := [.int (f14 (a2 : Int32).toNatClampNeg)]) (rest := []) ⟨hx, hb, hml, hown, hts⟩ (t11_push l dC dI H.size h0 ((f14 (a2 : Int32).toNatClampNeg)) qf0 qf1 v2 v3 v4 qf5 v6 v7 qf8 qf9 qf10 qf11 qf12 qf13 qf14 qf15 v16 v17 v18 0 v20 cf15 f15 nf g915_0 u15_1 u15_2 hu_15) (cwV 1 hts gv_h3_52 rfl rfl rfl (by decide +kernel) ⟨Nat.le_of_ble_eq_true rfl, Nat.le_of_ble_eq_true rfl⟩) ⟨fun a U g mk q => by obtain ⟨q0, q1, qP, qK, qD⟩ := q; exact ⟨q0, q1, qP, va_K.moved (u := U) (U := U.calling g mk a) (Vm.Alike.refl U.vm) qK, qD⟩, va_recv hKc hPc (ci := 11) (q0 := 0) rfl rfl, fun U hU hW => ⟨rfl, by rw [hU], by rw [hU]; exact hPc, va_K.moved hW.alike hKc, hDc.weaken (fun _ _ _ _ => trivial)⟩⟩ rfl rfl hl.1 rfl (lv_room (Nat.le_of_ble_eq_true rfl)) dX11_applyLocal_101 ⟨Nat.le_of_ble_eq_true rfl, Nat.le_of_ble_eq_true rfl⟩) hS (fun q _ h => hFc q h) hFc ?_
                clear hS
                intro u t H1 locs ht hvm hw hB hz1 hk1 hS
                obtain ⟨⟩ := u
                obtain ⟨hP1, hK1, hD1⟩ := hB
                rw [ht] at hP1
                have hK1 := va_K.moved hvm.symm hK1
                try dsimp only at hw
                have hPD := va_join (wr := [(qf14, .inl (cf14, 30, .inl f14)), (qf1, .inr (4, [.ref qf1_0, .ref qf1_1])), (qf1_1, .inl (cf1_1, 256, .inl f1_1)), (qf5, .inr (3, [.ref qf5_0, .int v5_1, .int v5_2, .int v5_3, .ref qf5_4, .ref qf5_5, .ref qf5_6, .int v5_7, .int v5_8, .int v5_9, .int v5_10, .ref qf5_11, .int v5_12, .ref qf5_13])), (qf5_13, .inl (cf5_13, 144, .inl f5_13))]) (w1 := [(h0, .inr (11, [.ref qf0, .ref qf1, .int v2, .int v3, .int v4, .ref qf5, .int v6, .int v7, .ref qf8, .ref qf9, .ref qf10, .ref qf11, .ref qf12, .ref qf13, .ref qf14, .ref qf15, .int v16, .int v17, .int u15_1, .int u15_2, .int v20])), (qf15, .inl (cf15, 30, .inl g915_0))]) hP hD [4, 1] [0, 2, 3, 5, 6] rfl rfl (by decide) (by decide) hk1 hFc hP1 hD1
                clear hP hD
                obtain ⟨hP, hD⟩ := hPD
                replace hK := (hK.sub (tys' := [(cf14, .int), (cf1_1, .boolean), (cf5_13, .int)]) [0, 2, 3] rfl).app hK1
                clear hPc hDc hKc hFc hP1 hK1 hD1 hz1 hk1 ht hvm
                generalize H1 = H at hP hS ⊢
                replace hP : va_P (dC, dI) vwCl [(qf14, .inl (cf14, 30, .inl f14)), (qf1, .inr (4, [.ref qf1_0, .ref qf1_1])), (qf1_1, .inl (cf1_1, 256, .inl f1_1)), (qf5, .inr (3, [.ref qf5_0, .int v5_1, .int v5_2, .int v5_3, .ref qf5_4, .ref qf5_5, .ref qf5_6, .int v5_7, .int v5_8, .int v5_9, .int v5_10, .ref qf5_11, .int v5_12, .ref qf5_13])), (qf5_13, .inl (cf5_13, 144, .inl f5_13)), (h0, .inr (11, [.ref qf0, .ref qf1, .int v2, .int v3, .int v4, .ref qf5, .int v6, .int v7, .ref qf8, .ref qf9, .ref qf10, .ref qf11, .ref qf12, .ref qf13, .ref qf14, .ref qf15, .int v16, .int v17, .int u15_1, .int u15_2, .int v20])), (qf15, .inl (cf15, 30, .inl g915_0))] H := hP
                replace hD : va_D A [(qf14, .inl (cf14, 30, .inl f14)), (qf1, .inr (4, [.ref qf1_0, .ref qf1_1])), (qf1_1, .inl (cf1_1, 256, .inl f1_1)), (qf5, .inr (3, [.ref qf5_0, .int v5_1, .int v5_2, .int v5_3, .ref qf5_4, .ref qf5_5, .ref qf5_6, .int v5_7, .int v5_8, .int v5_9, .int v5_10, .ref qf5_11, .int v5_12, .ref qf5_13])), (qf5_13, .inl (cf5_13, 144, .inl f5_13)), (h0, .inr (11, [.ref qf0, .ref qf1, .int v2, .int v3, .int v4, .ref qf5, .int v6, .int v7, .ref qf8, .ref qf9, .ref qf10, .ref qf11, .ref qf12, .ref qf13, .ref qf14, .ref qf15, .int v16, .int v17, .int u15_1, .int u15_2, .int v20])), (qf15, .inl (cf15, 30, .inl g915_0))] := hD
                replace hK : va_K (dC, dI) vwCl [(cf14, .int), (cf1_1, .boolean), (cf5_13, .int), (cf15, .int)] s := hK
                refine lv_goto (tgt := 142) hx hb dX11_applyLocal_104 (by decide) ?_
                have hr0 := Option.some.inj hsp
                clear hsp
                obtain ⟨hq0, hr1⟩ := Prod.mk.inj hr0
                clear hr0
                obtain ⟨hq1, hr2⟩ := Prod.mk.inj hr1
                clear hr1
                obtain ⟨hq2, hr3⟩ := Prod.mk.inj hr2
                clear hr2
                subst hq0
                subst hq1
                subst hq2
                subst hr3
                have hP9 := hP.sub (ws' := [(h0, .inr (11, [.ref qf0, .ref qf1, .int v2, .int v3, .int v4, .ref qf5, .int v6, .int v7, .ref qf8, .ref qf9, .ref qf10, .ref qf11, .ref qf12, .ref qf13, .ref qf14, .ref qf15, .int v16, .int v17, .int u15_1, .int u15_2, .int v20])), (qf5, .inr (3, [.ref qf5_0, .int v5_1, .int v5_2, .int v5_3, .ref qf5_4, .ref qf5_5, .ref qf5_6, .int v5_7, .int v5_8, .int v5_9, .int v5_10, .ref qf5_11, .int v5_12, .ref qf5_13])), (qf5_13, .inl (cf5_13, 144, .inl f5_13)), (qf14, .inl (cf14, 30, .inl f14)), (qf15, .inl (cf15, 30, .inl g915_0)), (qf1, .inr (4, [.ref qf1_0, .ref qf1_1])), (qf1_1, .inl (cf1_1, 256, .inl f1_1))]) [5, 3, 4, 0, 6, 1, 2] rfl
                have hD9 := hD.sub (ws' := [(h0, .inr (11, [.ref qf0, .ref qf1, .int v2, .int v3, .int v4, .ref qf5, .int v6, .int v7, .ref qf8, .ref qf9, .ref qf10, .ref qf11, .ref qf12, .ref qf13, .ref qf14, .ref qf15, .int v16, .int v17, .int u15_1, .int u15_2, .int v20])), (qf5, .inr (3, [.ref qf5_0, .int v5_1, .int v5_2, .int v5_3, .ref qf5_4, .ref qf5_5, .ref qf5_6, .int v5_7, .int v5_8, .int v5_9, .int v5_10, .ref qf5_11, .int v5_12, .ref qf5_13])), (qf5_13, .inl (cf5_13, 144, .inl f5_13)), (qf14, .inl (cf14, 30, .inl f14)), (qf15, .inl (cf15, 30, .inl g915_0)), (qf1, .inr (4, [.ref qf1_0, .ref qf1_1])), (qf1_1, .inl (cf1_1, 256, .inl f1_1))]) [5, 3, 4, 0, 6, 1, 2] (by decide) rfl
                have hK9 := hK.sub (tys' := [(cf5_13, .int), (cf14, .int), (cf15, .int), (cf1_1, .boolean)]) [2, 0, 3, 1] rfl
                exact W.vret hx hb hr (fun t ht hW => ⟨⟨(), rfl, trivial, by rw [ht]; exact hP9, va_K.moved hW.alike hK9, hD9⟩, hS.F ht⟩) hS.2.2 dX11_applyLocal_142
            · rw [if_neg (by decide)] at hsp
              refine lv_istore_n (lv' := [(3, .int 1), (0, .ref h0), (1, .int a1), (2, .int a2)]) hx hb dX11_applyLocal_73 rfl hl (by decide) rfl (fun ls hl => ?_)
              refine lv_aload_n hx hb dX11_applyLocal_74 rfl (lv_at hl 1 rfl) ?_
              refine lv_aload_n hx hb dX11_applyLocal_75 rfl (lv_at hl 1 rfl) ?_
              refine va_get (D := (dC, dI)) (ci := 11) (v := .int v19) (C := RX11) (T := TX11) (N := 21) hx hb hts uV_h3_X11 hown hK hP 4 rfl rfl 19 (by decide) (hts (.fieldLink RX11 295 "ClassMill$Verifier" "fitting" "Z") mw_h3_220) (fun _ h9 => h9) rfl dX11_applyLocal_76 ?_
              refine lv_if_eq (tgt := 90) hx hb dX11_applyLocal_79 (by decide) (fun c_38 => ?_) (fun c_38 => ?_)
              · rw [if_pos c_38] at hsp
                refine lv_iconst (v := 0) hx hb dX11_applyLocal_90 (by decide) ?_
                refine va_put (D := (dC, dI)) (ci := 11) (v := .int 0) (ty := .boolean) (C := RX11) (T := TX11) (N := 21) hx hb hts uV_h3_X11 tyX11 tyX11_ok nmX11 hown hK hP hD hS 4 rfl rfl 19 (by decide) (hts (.fieldLink RX11 295 "ClassMill$Verifier" "fitting" "Z") mw_h3_220) (fun _ h9 => h9) rfl (by decide +kernel) rfl rfl (Nat.le_of_ble_eq_true rfl) dX11_applyLocal_91 ?_
                clear hP hD hS
                intro H locs hP hD hS
                replace hP : va_P (dC, dI) vwCl [(qf14, .inl (cf14, 30, .inl f14)), (qf15, .inl (cf15, 30, .inl f15)), (qf1, .inr (4, [.ref qf1_0, .ref qf1_1])), (qf1_1, .inl (cf1_1, 256, .inl f1_1)), (h0, .inr (11, [.ref qf0, .ref qf1, .int v2, .int v3, .int v4, .ref qf5, .int v6, .int v7, .ref qf8, .ref qf9, .ref qf10, .ref qf11, .ref qf12, .ref qf13, .ref qf14, .ref qf15, .int v16, .int v17, .int v18, .int 0, .int v20])), (qf5, .inr (3, [.ref qf5_0, .int v5_1, .int v5_2, .int v5_3, .ref qf5_4, .ref qf5_5, .ref qf5_6, .int v5_7, .int v5_8, .int v5_9, .int v5_10, .ref qf5_11, .int v5_12, .ref qf5_13])), (qf5_13, .inl (cf5_13, 144, .inl f5_13))] H := hP
                replace hD : va_D A [(qf14, .inl (cf14, 30, .inl f14)), (qf15, .inl (cf15, 30, .inl f15)), (qf1, .inr (4, [.ref qf1_0, .ref qf1_1])), (qf1_1, .inl (cf1_1, 256, .inl f1_1)), (h0, .inr (11, [.ref qf0, .ref qf1, .int v2, .int v3, .int v4, .ref qf5, .int v6, .int v7, .ref qf8, .ref qf9, .ref qf10, .ref qf11, .ref qf12, .ref qf13, .ref qf14, .ref qf15, .int v16, .int v17, .int v18, .int 0, .int v20])), (qf5, .inr (3, [.ref qf5_0, .int v5_1, .int v5_2, .int v5_3, .ref qf5_4, .ref qf5_5, .ref qf5_6, .int v5_7, .int v5_8, .int v5_9, .int v5_10, .ref qf5_11, .int v5_12, .ref qf5_13])), (qf5_13, .inl (cf5_13, 144, .inl f5_13))] := hD
                refine lv_aload_n hx hb dX11_applyLocal_94 rfl (lv_at hl 1 rfl) ?_
                refine lv_aload_n hx hb dX11_applyLocal_95 rfl (lv_at hl 1 rfl) ?_
                refine va_get (D := (dC, dI)) (ci := 11) (v := .ref qf14) (C := RX11) (T := TX11) (N := 21) hx hb hts uV_h3_X11 hown hK hP 4 rfl rfl 14 (by decide) (hts (.fieldLink RX11 44 "ClassMill$Verifier" "locals" "[I") mw_h3_205) (fun _ h9 => h9) rfl dX11_applyLocal_96 ?_
                refine lv_iload_n hx hb dX11_applyLocal_99 rfl (lv_at hl 3 rfl) ?_
                obtain ⟨hi_39, hsp⟩ := ox_in hsp
                refine va_iald hx hb hK hP 0 0 rfl rfl (i := a2) hi_39 dX11_applyLocal_100 ?_
                obtain ⟨⟨g916_0, u16_1, u16_2⟩, hu_16, hsp⟩ := ox_bind hsp
                try dsimp only at hsp
                have hPc := hP.sub (ws' := [(h0, .inr (11, [.ref qf0, .ref qf1, .int v2, .int v3, .int v4, .ref qf5, .int v6, .int v7, .ref qf8, .ref qf9, .ref qf10, .ref qf11, .ref qf12, .ref qf13, .ref qf14, .ref qf15, .int v16, .int v17, .int v18, .int 0, .int v20])), (qf15, .inl (cf15, 30, .inl f15))]) [4, 1] rfl
                have hDc := hD.sub (ws' := [(h0, .inr (11, [.ref qf0, .ref qf1, .int v2, .int v3, .int v4, .ref qf5, .int v6, .int v7, .ref qf8, .ref qf9, .ref qf10, .ref qf11, .ref qf12, .ref qf13, .ref qf14, .ref qf15, .int v16, .int v17, .int v18, .int 0, .int v20])), (qf15, .inl (cf15, 30, .inl f15))]) [4, 1] (by decide) rfl
                have hKc := hK.sub (tys' := [(cf15, .int)]) [1] rfl
                have hFc := va_free (wc := [(h0, .inr (11, [.ref qf0, .ref qf1, .int v2, .int v3, .int v4, .ref qf5, .int v6, .int v7, .ref qf8, .ref qf9, .ref qf10, .ref qf11, .ref qf12, .ref qf13, .ref qf14, .ref qf15, .int v16, .int v17, .int v18, .int 0, .int v20])), (qf15, .inl (cf15, 30, .inl f15))]) hD hS hA [4, 1] rfl
                refine va_callv (va_runV (As := [.int (f14 (a2 : Int32).toNatClampNeg)]) (rest := []) ⟨hx, hb, hml, hown, hts⟩ (t11_push l dC dI H.size h0 ((f14 (a2 : Int32).toNatClampNeg)) qf0 qf1 v2 v3 v4 qf5 v6 v7 qf8 qf9 qf10 qf11 qf12 qf13 qf14 qf15 v16 v17 v18 0 v20 cf15 f15 nf g916_0 u16_1 u16_2 hu_16) (cwV 1 hts gv_h3_52 rfl rfl rfl (by decide +kernel) ⟨Nat.le_of_ble_eq_true rfl, Nat.le_of_ble_eq_true rfl⟩) ⟨fun a U g mk q => by obtain ⟨q0, q1, qP, qK, qD⟩ := q; exact ⟨q0, q1, qP, va_K.moved (u := U) (U := U.calling g mk a) (Vm.Alike.refl U.vm) qK, qD⟩, va_recv hKc hPc (ci := 11) (q0 := 0) rfl rfl, fun U hU hW => ⟨rfl, by rw [hU], by rw [hU]; exact hPc, va_K.moved hW.alike hKc, hDc.weaken (fun _ _ _ _ => trivial)⟩⟩ rfl rfl hl.1 rfl (lv_room (Nat.le_of_ble_eq_true rfl)) dX11_applyLocal_101 ⟨Nat.le_of_ble_eq_true rfl, Nat.le_of_ble_eq_true rfl⟩) hS (fun q _ h => hFc q h) hFc ?_
                clear hS
                intro u t H1 locs ht hvm hw hB hz1 hk1 hS
                obtain ⟨⟩ := u
                obtain ⟨hP1, hK1, hD1⟩ := hB
                rw [ht] at hP1
                have hK1 := va_K.moved hvm.symm hK1
                try dsimp only at hw
                have hPD := va_join (wr := [(qf14, .inl (cf14, 30, .inl f14)), (qf1, .inr (4, [.ref qf1_0, .ref qf1_1])), (qf1_1, .inl (cf1_1, 256, .inl f1_1)), (qf5, .inr (3, [.ref qf5_0, .int v5_1, .int v5_2, .int v5_3, .ref qf5_4, .ref qf5_5, .ref qf5_6, .int v5_7, .int v5_8, .int v5_9, .int v5_10, .ref qf5_11, .int v5_12, .ref qf5_13])), (qf5_13, .inl (cf5_13, 144, .inl f5_13))]) (w1 := [(h0, .inr (11, [.ref qf0, .ref qf1, .int v2, .int v3, .int v4, .ref qf5, .int v6, .int v7, .ref qf8, .ref qf9, .ref qf10, .ref qf11, .ref qf12, .ref qf13, .ref qf14, .ref qf15, .int v16, .int v17, .int u16_1, .int u16_2, .int v20])), (qf15, .inl (cf15, 30, .inl g916_0))]) hP hD [4, 1] [0, 2, 3, 5, 6] rfl rfl (by decide) (by decide) hk1 hFc hP1 hD1
                clear hP hD
                obtain ⟨hP, hD⟩ := hPD
                replace hK := (hK.sub (tys' := [(cf14, .int), (cf1_1, .boolean), (cf5_13, .int)]) [0, 2, 3] rfl).app hK1
                clear hPc hDc hKc hFc hP1 hK1 hD1 hz1 hk1 ht hvm
                generalize H1 = H at hP hS ⊢
                replace hP : va_P (dC, dI) vwCl [(qf14, .inl (cf14, 30, .inl f14)), (qf1, .inr (4, [.ref qf1_0, .ref qf1_1])), (qf1_1, .inl (cf1_1, 256, .inl f1_1)), (qf5, .inr (3, [.ref qf5_0, .int v5_1, .int v5_2, .int v5_3, .ref qf5_4, .ref qf5_5, .ref qf5_6, .int v5_7, .int v5_8, .int v5_9, .int v5_10, .ref qf5_11, .int v5_12, .ref qf5_13])), (qf5_13, .inl (cf5_13, 144, .inl f5_13)), (h0, .inr (11, [.ref qf0, .ref qf1, .int v2, .int v3, .int v4, .ref qf5, .int v6, .int v7, .ref qf8, .ref qf9, .ref qf10, .ref qf11, .ref qf12, .ref qf13, .ref qf14, .ref qf15, .int v16, .int v17, .int u16_1, .int u16_2, .int v20])), (qf15, .inl (cf15, 30, .inl g916_0))] H := hP
                replace hD : va_D A [(qf14, .inl (cf14, 30, .inl f14)), (qf1, .inr (4, [.ref qf1_0, .ref qf1_1])), (qf1_1, .inl (cf1_1, 256, .inl f1_1)), (qf5, .inr (3, [.ref qf5_0, .int v5_1, .int v5_2, .int v5_3, .ref qf5_4, .ref qf5_5, .ref qf5_6, .int v5_7, .int v5_8, .int v5_9, .int v5_10, .ref qf5_11, .int v5_12, .ref qf5_13])), (qf5_13, .inl (cf5_13, 144, .inl f5_13)), (h0, .inr (11, [.ref qf0, .ref qf1, .int v2, .int v3, .int v4, .ref qf5, .int v6, .int v7, .ref qf8, .ref qf9, .ref qf10, .ref qf11, .ref qf12, .ref qf13, .ref qf14, .ref qf15, .int v16, .int v17, .int u16_1, .int u16_2, .int v20])), (qf15, .inl (cf15, 30, .inl g916_0))] := hD
                replace hK : va_K (dC, dI) vwCl [(cf14, .int), (cf1_1, .boolean), (cf5_13, .int), (cf15, .int)] s := hK
                refine lv_goto (tgt := 142) hx hb dX11_applyLocal_104 (by decide) ?_
                have hr0 := Option.some.inj hsp
                clear hsp
                obtain ⟨hq0, hr1⟩ := Prod.mk.inj hr0
                clear hr0
                obtain ⟨hq1, hr2⟩ := Prod.mk.inj hr1
                clear hr1
                obtain ⟨hq2, hr3⟩ := Prod.mk.inj hr2
                clear hr2
                subst hq0
                subst hq1
                subst hq2
                subst hr3
                have hP9 := hP.sub (ws' := [(h0, .inr (11, [.ref qf0, .ref qf1, .int v2, .int v3, .int v4, .ref qf5, .int v6, .int v7, .ref qf8, .ref qf9, .ref qf10, .ref qf11, .ref qf12, .ref qf13, .ref qf14, .ref qf15, .int v16, .int v17, .int u16_1, .int u16_2, .int v20])), (qf5, .inr (3, [.ref qf5_0, .int v5_1, .int v5_2, .int v5_3, .ref qf5_4, .ref qf5_5, .ref qf5_6, .int v5_7, .int v5_8, .int v5_9, .int v5_10, .ref qf5_11, .int v5_12, .ref qf5_13])), (qf5_13, .inl (cf5_13, 144, .inl f5_13)), (qf14, .inl (cf14, 30, .inl f14)), (qf15, .inl (cf15, 30, .inl g916_0)), (qf1, .inr (4, [.ref qf1_0, .ref qf1_1])), (qf1_1, .inl (cf1_1, 256, .inl f1_1))]) [5, 3, 4, 0, 6, 1, 2] rfl
                have hD9 := hD.sub (ws' := [(h0, .inr (11, [.ref qf0, .ref qf1, .int v2, .int v3, .int v4, .ref qf5, .int v6, .int v7, .ref qf8, .ref qf9, .ref qf10, .ref qf11, .ref qf12, .ref qf13, .ref qf14, .ref qf15, .int v16, .int v17, .int u16_1, .int u16_2, .int v20])), (qf5, .inr (3, [.ref qf5_0, .int v5_1, .int v5_2, .int v5_3, .ref qf5_4, .ref qf5_5, .ref qf5_6, .int v5_7, .int v5_8, .int v5_9, .int v5_10, .ref qf5_11, .int v5_12, .ref qf5_13])), (qf5_13, .inl (cf5_13, 144, .inl f5_13)), (qf14, .inl (cf14, 30, .inl f14)), (qf15, .inl (cf15, 30, .inl g916_0)), (qf1, .inr (4, [.ref qf1_0, .ref qf1_1])), (qf1_1, .inl (cf1_1, 256, .inl f1_1))]) [5, 3, 4, 0, 6, 1, 2] (by decide) rfl
                have hK9 := hK.sub (tys' := [(cf5_13, .int), (cf14, .int), (cf15, .int), (cf1_1, .boolean)]) [2, 0, 3, 1] rfl
                exact W.vret hx hb hr (fun t ht hW => ⟨⟨(), rfl, trivial, by rw [ht]; exact hP9, va_K.moved hW.alike hK9, hD9⟩, hS.F ht⟩) hS.2.2 dX11_applyLocal_142
              · rw [if_neg c_38] at hsp
                refine lv_iload_n hx hb dX11_applyLocal_82 rfl (lv_at hl 0 rfl) ?_
                refine lv_if_eq (tgt := 90) hx hb dX11_applyLocal_83 (by decide) (fun c_40 => (show False by revert c_40; decide).elim) (fun c_40 => ?_)
                refine lv_iconst (v := 1) hx hb dX11_applyLocal_86 (by decide) ?_
                refine lv_goto (tgt := 91) hx hb dX11_applyLocal_87 (by decide) ?_
                refine va_put (D := (dC, dI)) (ci := 11) (v := .int 1) (ty := .boolean) (C := RX11) (T := TX11) (N := 21) hx hb hts uV_h3_X11 tyX11 tyX11_ok nmX11 hown hK hP hD hS 4 rfl rfl 19 (by decide) (hts (.fieldLink RX11 295 "ClassMill$Verifier" "fitting" "Z") mw_h3_220) (fun _ h9 => h9) rfl (by decide +kernel) rfl rfl (Nat.le_of_ble_eq_true rfl) dX11_applyLocal_91 ?_
                clear hP hD hS
                intro H locs hP hD hS
                replace hP : va_P (dC, dI) vwCl [(qf14, .inl (cf14, 30, .inl f14)), (qf15, .inl (cf15, 30, .inl f15)), (qf1, .inr (4, [.ref qf1_0, .ref qf1_1])), (qf1_1, .inl (cf1_1, 256, .inl f1_1)), (h0, .inr (11, [.ref qf0, .ref qf1, .int v2, .int v3, .int v4, .ref qf5, .int v6, .int v7, .ref qf8, .ref qf9, .ref qf10, .ref qf11, .ref qf12, .ref qf13, .ref qf14, .ref qf15, .int v16, .int v17, .int v18, .int 1, .int v20])), (qf5, .inr (3, [.ref qf5_0, .int v5_1, .int v5_2, .int v5_3, .ref qf5_4, .ref qf5_5, .ref qf5_6, .int v5_7, .int v5_8, .int v5_9, .int v5_10, .ref qf5_11, .int v5_12, .ref qf5_13])), (qf5_13, .inl (cf5_13, 144, .inl f5_13))] H := hP
                replace hD : va_D A [(qf14, .inl (cf14, 30, .inl f14)), (qf15, .inl (cf15, 30, .inl f15)), (qf1, .inr (4, [.ref qf1_0, .ref qf1_1])), (qf1_1, .inl (cf1_1, 256, .inl f1_1)), (h0, .inr (11, [.ref qf0, .ref qf1, .int v2, .int v3, .int v4, .ref qf5, .int v6, .int v7, .ref qf8, .ref qf9, .ref qf10, .ref qf11, .ref qf12, .ref qf13, .ref qf14, .ref qf15, .int v16, .int v17, .int v18, .int 1, .int v20])), (qf5, .inr (3, [.ref qf5_0, .int v5_1, .int v5_2, .int v5_3, .ref qf5_4, .ref qf5_5, .ref qf5_6, .int v5_7, .int v5_8, .int v5_9, .int v5_10, .ref qf5_11, .int v5_12, .ref qf5_13])), (qf5_13, .inl (cf5_13, 144, .inl f5_13))] := hD
                refine lv_aload_n hx hb dX11_applyLocal_94 rfl (lv_at hl 1 rfl) ?_
                refine lv_aload_n hx hb dX11_applyLocal_95 rfl (lv_at hl 1 rfl) ?_
                refine va_get (D := (dC, dI)) (ci := 11) (v := .ref qf14) (C := RX11) (T := TX11) (N := 21) hx hb hts uV_h3_X11 hown hK hP 4 rfl rfl 14 (by decide) (hts (.fieldLink RX11 44 "ClassMill$Verifier" "locals" "[I") mw_h3_205) (fun _ h9 => h9) rfl dX11_applyLocal_96 ?_
                refine lv_iload_n hx hb dX11_applyLocal_99 rfl (lv_at hl 3 rfl) ?_
                obtain ⟨hi_41, hsp⟩ := ox_in hsp
                refine va_iald hx hb hK hP 0 0 rfl rfl (i := a2) hi_41 dX11_applyLocal_100 ?_
                obtain ⟨⟨g917_0, u17_1, u17_2⟩, hu_17, hsp⟩ := ox_bind hsp
                try dsimp only at hsp
                have hPc := hP.sub (ws' := [(h0, .inr (11, [.ref qf0, .ref qf1, .int v2, .int v3, .int v4, .ref qf5, .int v6, .int v7, .ref qf8, .ref qf9, .ref qf10, .ref qf11, .ref qf12, .ref qf13, .ref qf14, .ref qf15, .int v16, .int v17, .int v18, .int 1, .int v20])), (qf15, .inl (cf15, 30, .inl f15))]) [4, 1] rfl
                have hDc := hD.sub (ws' := [(h0, .inr (11, [.ref qf0, .ref qf1, .int v2, .int v3, .int v4, .ref qf5, .int v6, .int v7, .ref qf8, .ref qf9, .ref qf10, .ref qf11, .ref qf12, .ref qf13, .ref qf14, .ref qf15, .int v16, .int v17, .int v18, .int 1, .int v20])), (qf15, .inl (cf15, 30, .inl f15))]) [4, 1] (by decide) rfl
                have hKc := hK.sub (tys' := [(cf15, .int)]) [1] rfl
                have hFc := va_free (wc := [(h0, .inr (11, [.ref qf0, .ref qf1, .int v2, .int v3, .int v4, .ref qf5, .int v6, .int v7, .ref qf8, .ref qf9, .ref qf10, .ref qf11, .ref qf12, .ref qf13, .ref qf14, .ref qf15, .int v16, .int v17, .int v18, .int 1, .int v20])), (qf15, .inl (cf15, 30, .inl f15))]) hD hS hA [4, 1] rfl
                refine va_callv (va_runV (As := [.int (f14 (a2 : Int32).toNatClampNeg)]) (rest := []) ⟨hx, hb, hml, hown, hts⟩ (t11_push l dC dI H.size h0 ((f14 (a2 : Int32).toNatClampNeg)) qf0 qf1 v2 v3 v4 qf5 v6 v7 qf8 qf9 qf10 qf11 qf12 qf13 qf14 qf15 v16 v17 v18 1 v20 cf15 f15 nf g917_0 u17_1 u17_2 hu_17) (cwV 1 hts gv_h3_52 rfl rfl rfl (by decide +kernel) ⟨Nat.le_of_ble_eq_true rfl, Nat.le_of_ble_eq_true rfl⟩) ⟨fun a U g mk q => by obtain ⟨q0, q1, qP, qK, qD⟩ := q; exact ⟨q0, q1, qP, va_K.moved (u := U) (U := U.calling g mk a) (Vm.Alike.refl U.vm) qK, qD⟩, va_recv hKc hPc (ci := 11) (q0 := 0) rfl rfl, fun U hU hW => ⟨rfl, by rw [hU], by rw [hU]; exact hPc, va_K.moved hW.alike hKc, hDc.weaken (fun _ _ _ _ => trivial)⟩⟩ rfl rfl hl.1 rfl (lv_room (Nat.le_of_ble_eq_true rfl)) dX11_applyLocal_101 ⟨Nat.le_of_ble_eq_true rfl, Nat.le_of_ble_eq_true rfl⟩) hS (fun q _ h => hFc q h) hFc ?_
                clear hS
                intro u t H1 locs ht hvm hw hB hz1 hk1 hS
                obtain ⟨⟩ := u
                obtain ⟨hP1, hK1, hD1⟩ := hB
                rw [ht] at hP1
                have hK1 := va_K.moved hvm.symm hK1
                try dsimp only at hw
                have hPD := va_join (wr := [(qf14, .inl (cf14, 30, .inl f14)), (qf1, .inr (4, [.ref qf1_0, .ref qf1_1])), (qf1_1, .inl (cf1_1, 256, .inl f1_1)), (qf5, .inr (3, [.ref qf5_0, .int v5_1, .int v5_2, .int v5_3, .ref qf5_4, .ref qf5_5, .ref qf5_6, .int v5_7, .int v5_8, .int v5_9, .int v5_10, .ref qf5_11, .int v5_12, .ref qf5_13])), (qf5_13, .inl (cf5_13, 144, .inl f5_13))]) (w1 := [(h0, .inr (11, [.ref qf0, .ref qf1, .int v2, .int v3, .int v4, .ref qf5, .int v6, .int v7, .ref qf8, .ref qf9, .ref qf10, .ref qf11, .ref qf12, .ref qf13, .ref qf14, .ref qf15, .int v16, .int v17, .int u17_1, .int u17_2, .int v20])), (qf15, .inl (cf15, 30, .inl g917_0))]) hP hD [4, 1] [0, 2, 3, 5, 6] rfl rfl (by decide) (by decide) hk1 hFc hP1 hD1
                clear hP hD
                obtain ⟨hP, hD⟩ := hPD
                replace hK := (hK.sub (tys' := [(cf14, .int), (cf1_1, .boolean), (cf5_13, .int)]) [0, 2, 3] rfl).app hK1
                clear hPc hDc hKc hFc hP1 hK1 hD1 hz1 hk1 ht hvm
                generalize H1 = H at hP hS ⊢
                replace hP : va_P (dC, dI) vwCl [(qf14, .inl (cf14, 30, .inl f14)), (qf1, .inr (4, [.ref qf1_0, .ref qf1_1])), (qf1_1, .inl (cf1_1, 256, .inl f1_1)), (qf5, .inr (3, [.ref qf5_0, .int v5_1, .int v5_2, .int v5_3, .ref qf5_4, .ref qf5_5, .ref qf5_6, .int v5_7, .int v5_8, .int v5_9, .int v5_10, .ref qf5_11, .int v5_12, .ref qf5_13])), (qf5_13, .inl (cf5_13, 144, .inl f5_13)), (h0, .inr (11, [.ref qf0, .ref qf1, .int v2, .int v3, .int v4, .ref qf5, .int v6, .int v7, .ref qf8, .ref qf9, .ref qf10, .ref qf11, .ref qf12, .ref qf13, .ref qf14, .ref qf15, .int v16, .int v17, .int u17_1, .int u17_2, .int v20])), (qf15, .inl (cf15, 30, .inl g917_0))] H := hP
                replace hD : va_D A [(qf14, .inl (cf14, 30, .inl f14)), (qf1, .inr (4, [.ref qf1_0, .ref qf1_1])), (qf1_1, .inl (cf1_1, 256, .inl f1_1)), (qf5, .inr (3, [.ref qf5_0, .int v5_1, .int v5_2, .int v5_3, .ref qf5_4, .ref qf5_5, .ref qf5_6, .int v5_7, .int v5_8, .int v5_9, .int v5_10, .ref qf5_11, .int v5_12, .ref qf5_13])), (qf5_13, .inl (cf5_13, 144, .inl f5_13)), (h0, .inr (11, [.ref qf0, .ref qf1, .int v2, .int v3, .int v4, .ref qf5, .int v6, .int v7, .ref qf8, .ref qf9, .ref qf10, .ref qf11, .ref qf12, .ref qf13, .ref qf14, .ref qf15, .int v16, .int v17, .int u17_1, .int u17_2, .int v20])), (qf15, .inl (cf15, 30, .inl g917_0))] := hD
                replace hK : va_K (dC, dI) vwCl [(cf14, .int), (cf1_1, .boolean), (cf5_13, .int), (cf15, .int)] s := hK
                refine lv_goto (tgt := 142) hx hb dX11_applyLocal_104 (by decide) ?_
                have hr0 := Option.some.inj hsp
                clear hsp
                obtain ⟨hq0, hr1⟩ := Prod.mk.inj hr0
                clear hr0
                obtain ⟨hq1, hr2⟩ := Prod.mk.inj hr1
                clear hr1
                obtain ⟨hq2, hr3⟩ := Prod.mk.inj hr2
                clear hr2
                subst hq0
                subst hq1
                subst hq2
                subst hr3
                have hP9 := hP.sub (ws' := [(h0, .inr (11, [.ref qf0, .ref qf1, .int v2, .int v3, .int v4, .ref qf5, .int v6, .int v7, .ref qf8, .ref qf9, .ref qf10, .ref qf11, .ref qf12, .ref qf13, .ref qf14, .ref qf15, .int v16, .int v17, .int u17_1, .int u17_2, .int v20])), (qf5, .inr (3, [.ref qf5_0, .int v5_1, .int v5_2, .int v5_3, .ref qf5_4, .ref qf5_5, .ref qf5_6, .int v5_7, .int v5_8, .int v5_9, .int v5_10, .ref qf5_11, .int v5_12, .ref qf5_13])), (qf5_13, .inl (cf5_13, 144, .inl f5_13)), (qf14, .inl (cf14, 30, .inl f14)), (qf15, .inl (cf15, 30, .inl g917_0)), (qf1, .inr (4, [.ref qf1_0, .ref qf1_1])), (qf1_1, .inl (cf1_1, 256, .inl f1_1))]) [5, 3, 4, 0, 6, 1, 2] rfl
                have hD9 := hD.sub (ws' := [(h0, .inr (11, [.ref qf0, .ref qf1, .int v2, .int v3, .int v4, .ref qf5, .int v6, .int v7, .ref qf8, .ref qf9, .ref qf10, .ref qf11, .ref qf12, .ref qf13, .ref qf14, .ref qf15, .int v16, .int v17, .int u17_1, .int u17_2, .int v20])), (qf5, .inr (3, [.ref qf5_0, .int v5_1, .int v5_2, .int v5_3, .ref qf5_4, .ref qf5_5, .ref qf5_6, .int v5_7, .int v5_8, .int v5_9, .int v5_10, .ref qf5_11, .int v5_12, .ref qf5_13])), (qf5_13, .inl (cf5_13, 144, .inl f5_13)), (qf14, .inl (cf14, 30, .inl f14)), (qf15, .inl (cf15, 30, .inl g917_0)), (qf1, .inr (4, [.ref qf1_0, .ref qf1_1])), (qf1_1, .inl (cf1_1, 256, .inl f1_1))]) [5, 3, 4, 0, 6, 1, 2] (by decide) rfl
                have hK9 := hK.sub (tys' := [(cf5_13, .int), (cf14, .int), (cf15, .int), (cf1_1, .boolean)]) [2, 0, 3, 1] rfl
                exact W.vret hx hb hr (fun t ht hW => ⟨⟨(), rfl, trivial, by rw [ht]; exact hP9, va_K.moved hW.alike hK9, hD9⟩, hS.F ht⟩) hS.2.2 dX11_applyLocal_142
          · rw [if_pos c_31] at hsp
            refine lv_aload_n hx hb dX11_applyLocal_44 rfl (lv_at hl 0 rfl) ?_
            refine va_get (D := (dC, dI)) (ci := 11) (v := .ref qf14) (C := RX11) (T := TX11) (N := 21) hx hb hts uV_h3_X11 hown hK hP 4 rfl rfl 14 (by decide) (hts (.fieldLink RX11 44 "ClassMill$Verifier" "locals" "[I") mw_h3_205) (fun _ h9 => h9) rfl dX11_applyLocal_45 ?_
            refine lv_iload_n hx hb dX11_applyLocal_48 rfl (lv_at hl 2 rfl) ?_
            obtain ⟨hi_42, hsp⟩ := ox_in hsp
            refine va_iald hx hb hK hP 0 0 rfl rfl (i := a2) hi_42 dX11_applyLocal_49 ?_
            refine lv_sipush (v := 301) hx hb dX11_applyLocal_50 (by decide) ?_
            refine lv_icmp_ne (tgt := 60) hx hb dX11_applyLocal_53 (by decide) (fun c_43 => ?_) (fun c_43 => ?_)
            · rw [if_neg c_43] at hsp
              refine lv_iconst (v := 0) hx hb dX11_applyLocal_60 (by decide) ?_
              refine lv_goto (tgt := 73) hx hb dX11_applyLocal_61 (by decide) ?_
              refine lv_istore_n (lv' := [(3, .int 0), (0, .ref h0), (1, .int a1), (2, .int a2)]) hx hb dX11_applyLocal_73 rfl hl (by decide) rfl (fun ls hl => ?_)
              refine lv_aload_n hx hb dX11_applyLocal_74 rfl (lv_at hl 1 rfl) ?_
              refine lv_aload_n hx hb dX11_applyLocal_75 rfl (lv_at hl 1 rfl) ?_
              refine va_get (D := (dC, dI)) (ci := 11) (v := .int v19) (C := RX11) (T := TX11) (N := 21) hx hb hts uV_h3_X11 hown hK hP 4 rfl rfl 19 (by decide) (hts (.fieldLink RX11 295 "ClassMill$Verifier" "fitting" "Z") mw_h3_220) (fun _ h9 => h9) rfl dX11_applyLocal_76 ?_
              refine lv_if_eq (tgt := 90) hx hb dX11_applyLocal_79 (by decide) (fun c_44 => ?_) (fun c_44 => ?_)
              · rw [if_pos c_44] at hsp
                refine lv_iconst (v := 0) hx hb dX11_applyLocal_90 (by decide) ?_
                refine va_put (D := (dC, dI)) (ci := 11) (v := .int 0) (ty := .boolean) (C := RX11) (T := TX11) (N := 21) hx hb hts uV_h3_X11 tyX11 tyX11_ok nmX11 hown hK hP hD hS 4 rfl rfl 19 (by decide) (hts (.fieldLink RX11 295 "ClassMill$Verifier" "fitting" "Z") mw_h3_220) (fun _ h9 => h9) rfl (by decide +kernel) rfl rfl (Nat.le_of_ble_eq_true rfl) dX11_applyLocal_91 ?_
                clear hP hD hS
                intro H locs hP hD hS
                replace hP : va_P (dC, dI) vwCl [(qf14, .inl (cf14, 30, .inl f14)), (qf15, .inl (cf15, 30, .inl f15)), (qf1, .inr (4, [.ref qf1_0, .ref qf1_1])), (qf1_1, .inl (cf1_1, 256, .inl f1_1)), (h0, .inr (11, [.ref qf0, .ref qf1, .int v2, .int v3, .int v4, .ref qf5, .int v6, .int v7, .ref qf8, .ref qf9, .ref qf10, .ref qf11, .ref qf12, .ref qf13, .ref qf14, .ref qf15, .int v16, .int v17, .int v18, .int 0, .int v20])), (qf5, .inr (3, [.ref qf5_0, .int v5_1, .int v5_2, .int v5_3, .ref qf5_4, .ref qf5_5, .ref qf5_6, .int v5_7, .int v5_8, .int v5_9, .int v5_10, .ref qf5_11, .int v5_12, .ref qf5_13])), (qf5_13, .inl (cf5_13, 144, .inl f5_13))] H := hP
                replace hD : va_D A [(qf14, .inl (cf14, 30, .inl f14)), (qf15, .inl (cf15, 30, .inl f15)), (qf1, .inr (4, [.ref qf1_0, .ref qf1_1])), (qf1_1, .inl (cf1_1, 256, .inl f1_1)), (h0, .inr (11, [.ref qf0, .ref qf1, .int v2, .int v3, .int v4, .ref qf5, .int v6, .int v7, .ref qf8, .ref qf9, .ref qf10, .ref qf11, .ref qf12, .ref qf13, .ref qf14, .ref qf15, .int v16, .int v17, .int v18, .int 0, .int v20])), (qf5, .inr (3, [.ref qf5_0, .int v5_1, .int v5_2, .int v5_3, .ref qf5_4, .ref qf5_5, .ref qf5_6, .int v5_7, .int v5_8, .int v5_9, .int v5_10, .ref qf5_11, .int v5_12, .ref qf5_13])), (qf5_13, .inl (cf5_13, 144, .inl f5_13))] := hD
                refine lv_aload_n hx hb dX11_applyLocal_94 rfl (lv_at hl 1 rfl) ?_
                refine lv_aload_n hx hb dX11_applyLocal_95 rfl (lv_at hl 1 rfl) ?_
                refine va_get (D := (dC, dI)) (ci := 11) (v := .ref qf14) (C := RX11) (T := TX11) (N := 21) hx hb hts uV_h3_X11 hown hK hP 4 rfl rfl 14 (by decide) (hts (.fieldLink RX11 44 "ClassMill$Verifier" "locals" "[I") mw_h3_205) (fun _ h9 => h9) rfl dX11_applyLocal_96 ?_
                refine lv_iload_n hx hb dX11_applyLocal_99 rfl (lv_at hl 3 rfl) ?_
                obtain ⟨hi_45, hsp⟩ := ox_in hsp
                refine va_iald hx hb hK hP 0 0 rfl rfl (i := a2) hi_45 dX11_applyLocal_100 ?_
                obtain ⟨⟨g918_0, u18_1, u18_2⟩, hu_18, hsp⟩ := ox_bind hsp
                try dsimp only at hsp
                have hPc := hP.sub (ws' := [(h0, .inr (11, [.ref qf0, .ref qf1, .int v2, .int v3, .int v4, .ref qf5, .int v6, .int v7, .ref qf8, .ref qf9, .ref qf10, .ref qf11, .ref qf12, .ref qf13, .ref qf14, .ref qf15, .int v16, .int v17, .int v18, .int 0, .int v20])), (qf15, .inl (cf15, 30, .inl f15))]) [4, 1] rfl
                have hDc := hD.sub (ws' := [(h0, .inr (11, [.ref qf0, .ref qf1, .int v2, .int v3, .int v4, .ref qf5, .int v6, .int v7, .ref qf8, .ref qf9, .ref qf10, .ref qf11, .ref qf12, .ref qf13, .ref qf14, .ref qf15, .int v16, .int v17, .int v18, .int 0, .int v20])), (qf15, .inl (cf15, 30, .inl f15))]) [4, 1] (by decide) rfl
                have hKc := hK.sub (tys' := [(cf15, .int)]) [1] rfl
                have hFc := va_free (wc := [(h0, .inr (11, [.ref qf0, .ref qf1, .int v2, .int v3, .int v4, .ref qf5, .int v6, .int v7, .ref qf8, .ref qf9, .ref qf10, .ref qf11, .ref qf12, .ref qf13, .ref qf14, .ref qf15, .int v16, .int v17, .int v18, .int 0, .int v20])), (qf15, .inl (cf15, 30, .inl f15))]) hD hS hA [4, 1] rfl
                refine va_callv (va_runV (As := [.int (f14 (a2 : Int32).toNatClampNeg)]) (rest := []) ⟨hx, hb, hml, hown, hts⟩ (t11_push l dC dI H.size h0 ((f14 (a2 : Int32).toNatClampNeg)) qf0 qf1 v2 v3 v4 qf5 v6 v7 qf8 qf9 qf10 qf11 qf12 qf13 qf14 qf15 v16 v17 v18 0 v20 cf15 f15 nf g918_0 u18_1 u18_2 hu_18) (cwV 1 hts gv_h3_52 rfl rfl rfl (by decide +kernel) ⟨Nat.le_of_ble_eq_true rfl, Nat.le_of_ble_eq_true rfl⟩) ⟨fun a U g mk q => by obtain ⟨q0, q1, qP, qK, qD⟩ := q; exact ⟨q0, q1, qP, va_K.moved (u := U) (U := U.calling g mk a) (Vm.Alike.refl U.vm) qK, qD⟩, va_recv hKc hPc (ci := 11) (q0 := 0) rfl rfl, fun U hU hW => ⟨rfl, by rw [hU], by rw [hU]; exact hPc, va_K.moved hW.alike hKc, hDc.weaken (fun _ _ _ _ => trivial)⟩⟩ rfl rfl hl.1 rfl (lv_room (Nat.le_of_ble_eq_true rfl)) dX11_applyLocal_101 ⟨Nat.le_of_ble_eq_true rfl, Nat.le_of_ble_eq_true rfl⟩) hS (fun q _ h => hFc q h) hFc ?_
                clear hS
                intro u t H1 locs ht hvm hw hB hz1 hk1 hS
                obtain ⟨⟩ := u
                obtain ⟨hP1, hK1, hD1⟩ := hB
                rw [ht] at hP1
                have hK1 := va_K.moved hvm.symm hK1
                try dsimp only at hw
                have hPD := va_join (wr := [(qf14, .inl (cf14, 30, .inl f14)), (qf1, .inr (4, [.ref qf1_0, .ref qf1_1])), (qf1_1, .inl (cf1_1, 256, .inl f1_1)), (qf5, .inr (3, [.ref qf5_0, .int v5_1, .int v5_2, .int v5_3, .ref qf5_4, .ref qf5_5, .ref qf5_6, .int v5_7, .int v5_8, .int v5_9, .int v5_10, .ref qf5_11, .int v5_12, .ref qf5_13])), (qf5_13, .inl (cf5_13, 144, .inl f5_13))]) (w1 := [(h0, .inr (11, [.ref qf0, .ref qf1, .int v2, .int v3, .int v4, .ref qf5, .int v6, .int v7, .ref qf8, .ref qf9, .ref qf10, .ref qf11, .ref qf12, .ref qf13, .ref qf14, .ref qf15, .int v16, .int v17, .int u18_1, .int u18_2, .int v20])), (qf15, .inl (cf15, 30, .inl g918_0))]) hP hD [4, 1] [0, 2, 3, 5, 6] rfl rfl (by decide) (by decide) hk1 hFc hP1 hD1
                clear hP hD
                obtain ⟨hP, hD⟩ := hPD
                replace hK := (hK.sub (tys' := [(cf14, .int), (cf1_1, .boolean), (cf5_13, .int)]) [0, 2, 3] rfl).app hK1
                clear hPc hDc hKc hFc hP1 hK1 hD1 hz1 hk1 ht hvm
                generalize H1 = H at hP hS ⊢
                replace hP : va_P (dC, dI) vwCl [(qf14, .inl (cf14, 30, .inl f14)), (qf1, .inr (4, [.ref qf1_0, .ref qf1_1])), (qf1_1, .inl (cf1_1, 256, .inl f1_1)), (qf5, .inr (3, [.ref qf5_0, .int v5_1, .int v5_2, .int v5_3, .ref qf5_4, .ref qf5_5, .ref qf5_6, .int v5_7, .int v5_8, .int v5_9, .int v5_10, .ref qf5_11, .int v5_12, .ref qf5_13])), (qf5_13, .inl (cf5_13, 144, .inl f5_13)), (h0, .inr (11, [.ref qf0, .ref qf1, .int v2, .int v3, .int v4, .ref qf5, .int v6, .int v7, .ref qf8, .ref qf9, .ref qf10, .ref qf11, .ref qf12, .ref qf13, .ref qf14, .ref qf15, .int v16, .int v17, .int u18_1, .int u18_2, .int v20])), (qf15, .inl (cf15, 30, .inl g918_0))] H := hP
                replace hD : va_D A [(qf14, .inl (cf14, 30, .inl f14)), (qf1, .inr (4, [.ref qf1_0, .ref qf1_1])), (qf1_1, .inl (cf1_1, 256, .inl f1_1)), (qf5, .inr (3, [.ref qf5_0, .int v5_1, .int v5_2, .int v5_3, .ref qf5_4, .ref qf5_5, .ref qf5_6, .int v5_7, .int v5_8, .int v5_9, .int v5_10, .ref qf5_11, .int v5_12, .ref qf5_13])), (qf5_13, .inl (cf5_13, 144, .inl f5_13)), (h0, .inr (11, [.ref qf0, .ref qf1, .int v2, .int v3, .int v4, .ref qf5, .int v6, .int v7, .ref qf8, .ref qf9, .ref qf10, .ref qf11, .ref qf12, .ref qf13, .ref qf14, .ref qf15, .int v16, .int v17, .int u18_1, .int u18_2, .int v20])), (qf15, .inl (cf15, 30, .inl g918_0))] := hD
                replace hK : va_K (dC, dI) vwCl [(cf14, .int), (cf1_1, .boolean), (cf5_13, .int), (cf15, .int)] s := hK
                refine lv_goto (tgt := 142) hx hb dX11_applyLocal_104 (by decide) ?_
                have hr0 := Option.some.inj hsp
                clear hsp
                obtain ⟨hq0, hr1⟩ := Prod.mk.inj hr0
                clear hr0
                obtain ⟨hq1, hr2⟩ := Prod.mk.inj hr1
                clear hr1
                obtain ⟨hq2, hr3⟩ := Prod.mk.inj hr2
                clear hr2
                subst hq0
                subst hq1
                subst hq2
                subst hr3
                have hP9 := hP.sub (ws' := [(h0, .inr (11, [.ref qf0, .ref qf1, .int v2, .int v3, .int v4, .ref qf5, .int v6, .int v7, .ref qf8, .ref qf9, .ref qf10, .ref qf11, .ref qf12, .ref qf13, .ref qf14, .ref qf15, .int v16, .int v17, .int u18_1, .int u18_2, .int v20])), (qf5, .inr (3, [.ref qf5_0, .int v5_1, .int v5_2, .int v5_3, .ref qf5_4, .ref qf5_5, .ref qf5_6, .int v5_7, .int v5_8, .int v5_9, .int v5_10, .ref qf5_11, .int v5_12, .ref qf5_13])), (qf5_13, .inl (cf5_13, 144, .inl f5_13)), (qf14, .inl (cf14, 30, .inl f14)), (qf15, .inl (cf15, 30, .inl g918_0)), (qf1, .inr (4, [.ref qf1_0, .ref qf1_1])), (qf1_1, .inl (cf1_1, 256, .inl f1_1))]) [5, 3, 4, 0, 6, 1, 2] rfl
                have hD9 := hD.sub (ws' := [(h0, .inr (11, [.ref qf0, .ref qf1, .int v2, .int v3, .int v4, .ref qf5, .int v6, .int v7, .ref qf8, .ref qf9, .ref qf10, .ref qf11, .ref qf12, .ref qf13, .ref qf14, .ref qf15, .int v16, .int v17, .int u18_1, .int u18_2, .int v20])), (qf5, .inr (3, [.ref qf5_0, .int v5_1, .int v5_2, .int v5_3, .ref qf5_4, .ref qf5_5, .ref qf5_6, .int v5_7, .int v5_8, .int v5_9, .int v5_10, .ref qf5_11, .int v5_12, .ref qf5_13])), (qf5_13, .inl (cf5_13, 144, .inl f5_13)), (qf14, .inl (cf14, 30, .inl f14)), (qf15, .inl (cf15, 30, .inl g918_0)), (qf1, .inr (4, [.ref qf1_0, .ref qf1_1])), (qf1_1, .inl (cf1_1, 256, .inl f1_1))]) [5, 3, 4, 0, 6, 1, 2] (by decide) rfl
                have hK9 := hK.sub (tys' := [(cf5_13, .int), (cf14, .int), (cf15, .int), (cf1_1, .boolean)]) [2, 0, 3, 1] rfl
                exact W.vret hx hb hr (fun t ht hW => ⟨⟨(), rfl, trivial, by rw [ht]; exact hP9, va_K.moved hW.alike hK9, hD9⟩, hS.F ht⟩) hS.2.2 dX11_applyLocal_142
              · rw [if_neg c_44] at hsp
                refine lv_iload_n hx hb dX11_applyLocal_82 rfl (lv_at hl 0 rfl) ?_
                refine lv_if_eq (tgt := 90) hx hb dX11_applyLocal_83 (by decide) (fun c_46 => ?_) (fun c_46 => (show False by revert c_46; decide).elim)
                refine lv_iconst (v := 0) hx hb dX11_applyLocal_90 (by decide) ?_
                refine va_put (D := (dC, dI)) (ci := 11) (v := .int 0) (ty := .boolean) (C := RX11) (T := TX11) (N := 21) hx hb hts uV_h3_X11 tyX11 tyX11_ok nmX11 hown hK hP hD hS 4 rfl rfl 19 (by decide) (hts (.fieldLink RX11 295 "ClassMill$Verifier" "fitting" "Z") mw_h3_220) (fun _ h9 => h9) rfl (by decide +kernel) rfl rfl (Nat.le_of_ble_eq_true rfl) dX11_applyLocal_91 ?_
                clear hP hD hS
                intro H locs hP hD hS
                replace hP : va_P (dC, dI) vwCl [(qf14, .inl (cf14, 30, .inl f14)), (qf15, .inl (cf15, 30, .inl f15)), (qf1, .inr (4, [.ref qf1_0, .ref qf1_1])), (qf1_1, .inl (cf1_1, 256, .inl f1_1)), (h0, .inr (11, [.ref qf0, .ref qf1, .int v2, .int v3, .int v4, .ref qf5, .int v6, .int v7, .ref qf8, .ref qf9, .ref qf10, .ref qf11, .ref qf12, .ref qf13, .ref qf14, .ref qf15, .int v16, .int v17, .int v18, .int 0, .int v20])), (qf5, .inr (3, [.ref qf5_0, .int v5_1, .int v5_2, .int v5_3, .ref qf5_4, .ref qf5_5, .ref qf5_6, .int v5_7, .int v5_8, .int v5_9, .int v5_10, .ref qf5_11, .int v5_12, .ref qf5_13])), (qf5_13, .inl (cf5_13, 144, .inl f5_13))] H := hP
                replace hD : va_D A [(qf14, .inl (cf14, 30, .inl f14)), (qf15, .inl (cf15, 30, .inl f15)), (qf1, .inr (4, [.ref qf1_0, .ref qf1_1])), (qf1_1, .inl (cf1_1, 256, .inl f1_1)), (h0, .inr (11, [.ref qf0, .ref qf1, .int v2, .int v3, .int v4, .ref qf5, .int v6, .int v7, .ref qf8, .ref qf9, .ref qf10, .ref qf11, .ref qf12, .ref qf13, .ref qf14, .ref qf15, .int v16, .int v17, .int v18, .int 0, .int v20])), (qf5, .inr (3, [.ref qf5_0, .int v5_1, .int v5_2, .int v5_3, .ref qf5_4, .ref qf5_5, .ref qf5_6, .int v5_7, .int v5_8, .int v5_9, .int v5_10, .ref qf5_11, .int v5_12, .ref qf5_13])), (qf5_13, .inl (cf5_13, 144, .inl f5_13))] := hD
                refine lv_aload_n hx hb dX11_applyLocal_94 rfl (lv_at hl 1 rfl) ?_
                refine lv_aload_n hx hb dX11_applyLocal_95 rfl (lv_at hl 1 rfl) ?_
                refine va_get (D := (dC, dI)) (ci := 11) (v := .ref qf14) (C := RX11) (T := TX11) (N := 21) hx hb hts uV_h3_X11 hown hK hP 4 rfl rfl 14 (by decide) (hts (.fieldLink RX11 44 "ClassMill$Verifier" "locals" "[I") mw_h3_205) (fun _ h9 => h9) rfl dX11_applyLocal_96 ?_
                refine lv_iload_n hx hb dX11_applyLocal_99 rfl (lv_at hl 3 rfl) ?_
                obtain ⟨hi_47, hsp⟩ := ox_in hsp
                refine va_iald hx hb hK hP 0 0 rfl rfl (i := a2) hi_47 dX11_applyLocal_100 ?_
                obtain ⟨⟨g919_0, u19_1, u19_2⟩, hu_19, hsp⟩ := ox_bind hsp
                try dsimp only at hsp
                have hPc := hP.sub (ws' := [(h0, .inr (11, [.ref qf0, .ref qf1, .int v2, .int v3, .int v4, .ref qf5, .int v6, .int v7, .ref qf8, .ref qf9, .ref qf10, .ref qf11, .ref qf12, .ref qf13, .ref qf14, .ref qf15, .int v16, .int v17, .int v18, .int 0, .int v20])), (qf15, .inl (cf15, 30, .inl f15))]) [4, 1] rfl
                have hDc := hD.sub (ws' := [(h0, .inr (11, [.ref qf0, .ref qf1, .int v2, .int v3, .int v4, .ref qf5, .int v6, .int v7, .ref qf8, .ref qf9, .ref qf10, .ref qf11, .ref qf12, .ref qf13, .ref qf14, .ref qf15, .int v16, .int v17, .int v18, .int 0, .int v20])), (qf15, .inl (cf15, 30, .inl f15))]) [4, 1] (by decide) rfl
                have hKc := hK.sub (tys' := [(cf15, .int)]) [1] rfl
                have hFc := va_free (wc := [(h0, .inr (11, [.ref qf0, .ref qf1, .int v2, .int v3, .int v4, .ref qf5, .int v6, .int v7, .ref qf8, .ref qf9, .ref qf10, .ref qf11, .ref qf12, .ref qf13, .ref qf14, .ref qf15, .int v16, .int v17, .int v18, .int 0, .int v20])), (qf15, .inl (cf15, 30, .inl f15))]) hD hS hA [4, 1] rfl
                refine va_callv (va_runV (As := [.int (f14 (a2 : Int32).toNatClampNeg)]) (rest := []) ⟨hx, hb, hml, hown, hts⟩ (t11_push l dC dI H.size h0 ((f14 (a2 : Int32).toNatClampNeg)) qf0 qf1 v2 v3 v4 qf5 v6 v7 qf8 qf9 qf10 qf11 qf12 qf13 qf14 qf15 v16 v17 v18 0 v20 cf15 f15 nf g919_0 u19_1 u19_2 hu_19) (cwV 1 hts gv_h3_52 rfl rfl rfl (by decide +kernel) ⟨Nat.le_of_ble_eq_true rfl, Nat.le_of_ble_eq_true rfl⟩) ⟨fun a U g mk q => by obtain ⟨q0, q1, qP, qK, qD⟩ := q; exact ⟨q0, q1, qP, va_K.moved (u := U) (U := U.calling g mk a) (Vm.Alike.refl U.vm) qK, qD⟩, va_recv hKc hPc (ci := 11) (q0 := 0) rfl rfl, fun U hU hW => ⟨rfl, by rw [hU], by rw [hU]; exact hPc, va_K.moved hW.alike hKc, hDc.weaken (fun _ _ _ _ => trivial)⟩⟩ rfl rfl hl.1 rfl (lv_room (Nat.le_of_ble_eq_true rfl)) dX11_applyLocal_101 ⟨Nat.le_of_ble_eq_true rfl, Nat.le_of_ble_eq_true rfl⟩) hS (fun q _ h => hFc q h) hFc ?_
                clear hS
                intro u t H1 locs ht hvm hw hB hz1 hk1 hS
                obtain ⟨⟩ := u
                obtain ⟨hP1, hK1, hD1⟩ := hB
                rw [ht] at hP1
                have hK1 := va_K.moved hvm.symm hK1
                try dsimp only at hw
                have hPD := va_join (wr := [(qf14, .inl (cf14, 30, .inl f14)), (qf1, .inr (4, [.ref qf1_0, .ref qf1_1])), (qf1_1, .inl (cf1_1, 256, .inl f1_1)), (qf5, .inr (3, [.ref qf5_0, .int v5_1, .int v5_2, .int v5_3, .ref qf5_4, .ref qf5_5, .ref qf5_6, .int v5_7, .int v5_8, .int v5_9, .int v5_10, .ref qf5_11, .int v5_12, .ref qf5_13])), (qf5_13, .inl (cf5_13, 144, .inl f5_13))]) (w1 := [(h0, .inr (11, [.ref qf0, .ref qf1, .int v2, .int v3, .int v4, .ref qf5, .int v6, .int v7, .ref qf8, .ref qf9, .ref qf10, .ref qf11, .ref qf12, .ref qf13, .ref qf14, .ref qf15, .int v16, .int v17, .int u19_1, .int u19_2, .int v20])), (qf15, .inl (cf15, 30, .inl g919_0))]) hP hD [4, 1] [0, 2, 3, 5, 6] rfl rfl (by decide) (by decide) hk1 hFc hP1 hD1
                clear hP hD
                obtain ⟨hP, hD⟩ := hPD
                replace hK := (hK.sub (tys' := [(cf14, .int), (cf1_1, .boolean), (cf5_13, .int)]) [0, 2, 3] rfl).app hK1
                clear hPc hDc hKc hFc hP1 hK1 hD1 hz1 hk1 ht hvm
                generalize H1 = H at hP hS ⊢
                replace hP : va_P (dC, dI) vwCl [(qf14, .inl (cf14, 30, .inl f14)), (qf1, .inr (4, [.ref qf1_0, .ref qf1_1])), (qf1_1, .inl (cf1_1, 256, .inl f1_1)), (qf5, .inr (3, [.ref qf5_0, .int v5_1, .int v5_2, .int v5_3, .ref qf5_4, .ref qf5_5, .ref qf5_6, .int v5_7, .int v5_8, .int v5_9, .int v5_10, .ref qf5_11, .int v5_12, .ref qf5_13])), (qf5_13, .inl (cf5_13, 144, .inl f5_13)), (h0, .inr (11, [.ref qf0, .ref qf1, .int v2, .int v3, .int v4, .ref qf5, .int v6, .int v7, .ref qf8, .ref qf9, .ref qf10, .ref qf11, .ref qf12, .ref qf13, .ref qf14, .ref qf15, .int v16, .int v17, .int u19_1, .int u19_2, .int v20])), (qf15, .inl (cf15, 30, .inl g919_0))] H := hP
                replace hD : va_D A [(qf14, .inl (cf14, 30, .inl f14)), (qf1, .inr (4, [.ref qf1_0, .ref qf1_1])), (qf1_1, .inl (cf1_1, 256, .inl f1_1)), (qf5, .inr (3, [.ref qf5_0, .int v5_1, .int v5_2, .int v5_3, .ref qf5_4, .ref qf5_5, .ref qf5_6, .int v5_7, .int v5_8, .int v5_9, .int v5_10, .ref qf5_11, .int v5_12, .ref qf5_13])), (qf5_13, .inl (cf5_13, 144, .inl f5_13)), (h0, .inr (11, [.ref qf0, .ref qf1, .int v2, .int v3, .int v4, .ref qf5, .int v6, .int v7, .ref qf8, .ref qf9, .ref qf10, .ref qf11, .ref qf12, .ref qf13, .ref qf14, .ref qf15, .int v16, .int v17, .int u19_1, .int u19_2, .int v20])), (qf15, .inl (cf15, 30, .inl g919_0))] := hD
                replace hK : va_K (dC, dI) vwCl [(cf14, .int), (cf1_1, .boolean), (cf5_13, .int), (cf15, .int)] s := hK
                refine lv_goto (tgt := 142) hx hb dX11_applyLocal_104 (by decide) ?_
                have hr0 := Option.some.inj hsp
                clear hsp
                obtain ⟨hq0, hr1⟩ := Prod.mk.inj hr0
                clear hr0
                obtain ⟨hq1, hr2⟩ := Prod.mk.inj hr1
                clear hr1
                obtain ⟨hq2, hr3⟩ := Prod.mk.inj hr2
                clear hr2
                subst hq0
                subst hq1
                subst hq2
                subst hr3
                have hP9 := hP.sub (ws' := [(h0, .inr (11, [.ref qf0, .ref qf1, .int v2, .int v3, .int v4, .ref qf5, .int v6, .int v7, .ref qf8, .ref qf9, .ref qf10, .ref qf11, .ref qf12, .ref qf13, .ref qf14, .ref qf15, .int v16, .int v17, .int u19_1, .int u19_2, .int v20])), (qf5, .inr (3, [.ref qf5_0, .int v5_1, .int v5_2, .int v5_3, .ref qf5_4, .ref qf5_5, .ref qf5_6, .int v5_7, .int v5_8, .int v5_9, .int v5_10, .ref qf5_11, .int v5_12, .ref qf5_13])), (qf5_13, .inl (cf5_13, 144, .inl f5_13)), (qf14, .inl (cf14, 30, .inl f14)), (qf15, .inl (cf15, 30, .inl g919_0)), (qf1, .inr (4, [.ref qf1_0, .ref qf1_1])), (qf1_1, .inl (cf1_1, 256, .inl f1_1))]) [5, 3, 4, 0, 6, 1, 2] rfl
                have hD9 := hD.sub (ws' := [(h0, .inr (11, [.ref qf0, .ref qf1, .int v2, .int v3, .int v4, .ref qf5, .int v6, .int v7, .ref qf8, .ref qf9, .ref qf10, .ref qf11, .ref qf12, .ref qf13, .ref qf14, .ref qf15, .int v16, .int v17, .int u19_1, .int u19_2, .int v20])), (qf5, .inr (3, [.ref qf5_0, .int v5_1, .int v5_2, .int v5_3, .ref qf5_4, .ref qf5_5, .ref qf5_6, .int v5_7, .int v5_8, .int v5_9, .int v5_10, .ref qf5_11, .int v5_12, .ref qf5_13])), (qf5_13, .inl (cf5_13, 144, .inl f5_13)), (qf14, .inl (cf14, 30, .inl f14)), (qf15, .inl (cf15, 30, .inl g919_0)), (qf1, .inr (4, [.ref qf1_0, .ref qf1_1])), (qf1_1, .inl (cf1_1, 256, .inl f1_1))]) [5, 3, 4, 0, 6, 1, 2] (by decide) rfl
                have hK9 := hK.sub (tys' := [(cf5_13, .int), (cf14, .int), (cf15, .int), (cf1_1, .boolean)]) [2, 0, 3, 1] rfl
                exact W.vret hx hb hr (fun t ht hW => ⟨⟨(), rfl, trivial, by rw [ht]; exact hP9, va_K.moved hW.alike hK9, hD9⟩, hS.F ht⟩) hS.2.2 dX11_applyLocal_142
            · rw [if_pos c_43] at hsp
              refine lv_iconst (v := 1) hx hb dX11_applyLocal_56 (by decide) ?_
              refine lv_goto (tgt := 73) hx hb dX11_applyLocal_57 (by decide) ?_
              refine lv_istore_n (lv' := [(3, .int 1), (0, .ref h0), (1, .int a1), (2, .int a2)]) hx hb dX11_applyLocal_73 rfl hl (by decide) rfl (fun ls hl => ?_)
              refine lv_aload_n hx hb dX11_applyLocal_74 rfl (lv_at hl 1 rfl) ?_
              refine lv_aload_n hx hb dX11_applyLocal_75 rfl (lv_at hl 1 rfl) ?_
              refine va_get (D := (dC, dI)) (ci := 11) (v := .int v19) (C := RX11) (T := TX11) (N := 21) hx hb hts uV_h3_X11 hown hK hP 4 rfl rfl 19 (by decide) (hts (.fieldLink RX11 295 "ClassMill$Verifier" "fitting" "Z") mw_h3_220) (fun _ h9 => h9) rfl dX11_applyLocal_76 ?_
              refine lv_if_eq (tgt := 90) hx hb dX11_applyLocal_79 (by decide) (fun c_48 => ?_) (fun c_48 => ?_)
              · rw [if_pos c_48] at hsp
                refine lv_iconst (v := 0) hx hb dX11_applyLocal_90 (by decide) ?_
                refine va_put (D := (dC, dI)) (ci := 11) (v := .int 0) (ty := .boolean) (C := RX11) (T := TX11) (N := 21) hx hb hts uV_h3_X11 tyX11 tyX11_ok nmX11 hown hK hP hD hS 4 rfl rfl 19 (by decide) (hts (.fieldLink RX11 295 "ClassMill$Verifier" "fitting" "Z") mw_h3_220) (fun _ h9 => h9) rfl (by decide +kernel) rfl rfl (Nat.le_of_ble_eq_true rfl) dX11_applyLocal_91 ?_
                clear hP hD hS
                intro H locs hP hD hS
                replace hP : va_P (dC, dI) vwCl [(qf14, .inl (cf14, 30, .inl f14)), (qf15, .inl (cf15, 30, .inl f15)), (qf1, .inr (4, [.ref qf1_0, .ref qf1_1])), (qf1_1, .inl (cf1_1, 256, .inl f1_1)), (h0, .inr (11, [.ref qf0, .ref qf1, .int v2, .int v3, .int v4, .ref qf5, .int v6, .int v7, .ref qf8, .ref qf9, .ref qf10, .ref qf11, .ref qf12, .ref qf13, .ref qf14, .ref qf15, .int v16, .int v17, .int v18, .int 0, .int v20])), (qf5, .inr (3, [.ref qf5_0, .int v5_1, .int v5_2, .int v5_3, .ref qf5_4, .ref qf5_5, .ref qf5_6, .int v5_7, .int v5_8, .int v5_9, .int v5_10, .ref qf5_11, .int v5_12, .ref qf5_13])), (qf5_13, .inl (cf5_13, 144, .inl f5_13))] H := hP
                replace hD : va_D A [(qf14, .inl (cf14, 30, .inl f14)), (qf15, .inl (cf15, 30, .inl f15)), (qf1, .inr (4, [.ref qf1_0, .ref qf1_1])), (qf1_1, .inl (cf1_1, 256, .inl f1_1)), (h0, .inr (11, [.ref qf0, .ref qf1, .int v2, .int v3, .int v4, .ref qf5, .int v6, .int v7, .ref qf8, .ref qf9, .ref qf10, .ref qf11, .ref qf12, .ref qf13, .ref qf14, .ref qf15, .int v16, .int v17, .int v18, .int 0, .int v20])), (qf5, .inr (3, [.ref qf5_0, .int v5_1, .int v5_2, .int v5_3, .ref qf5_4, .ref qf5_5, .ref qf5_6, .int v5_7, .int v5_8, .int v5_9, .int v5_10, .ref qf5_11, .int v5_12, .ref qf5_13])), (qf5_13, .inl (cf5_13, 144, .inl f5_13))] := hD
                refine lv_aload_n hx hb dX11_applyLocal_94 rfl (lv_at hl 1 rfl) ?_
                refine lv_aload_n hx hb dX11_applyLocal_95 rfl (lv_at hl 1 rfl) ?_
                refine va_get (D := (dC, dI)) (ci := 11) (v := .ref qf14) (C := RX11) (T := TX11) (N := 21) hx hb hts uV_h3_X11 hown hK hP 4 rfl rfl 14 (by decide) (hts (.fieldLink RX11 44 "ClassMill$Verifier" "locals" "[I") mw_h3_205) (fun _ h9 => h9) rfl dX11_applyLocal_96 ?_
                refine lv_iload_n hx hb dX11_applyLocal_99 rfl (lv_at hl 3 rfl) ?_
                obtain ⟨hi_49, hsp⟩ := ox_in hsp
                refine va_iald hx hb hK hP 0 0 rfl rfl (i := a2) hi_49 dX11_applyLocal_100 ?_
                obtain ⟨⟨g920_0, u20_1, u20_2⟩, hu_20, hsp⟩ := ox_bind hsp
                try dsimp only at hsp
                have hPc := hP.sub (ws' := [(h0, .inr (11, [.ref qf0, .ref qf1, .int v2, .int v3, .int v4, .ref qf5, .int v6, .int v7, .ref qf8, .ref qf9, .ref qf10, .ref qf11, .ref qf12, .ref qf13, .ref qf14, .ref qf15, .int v16, .int v17, .int v18, .int 0, .int v20])), (qf15, .inl (cf15, 30, .inl f15))]) [4, 1] rfl
                have hDc := hD.sub (ws' := [(h0, .inr (11, [.ref qf0, .ref qf1, .int v2, .int v3, .int v4, .ref qf5, .int v6, .int v7, .ref qf8, .ref qf9, .ref qf10, .ref qf11, .ref qf12, .ref qf13, .ref qf14, .ref qf15, .int v16, .int v17, .int v18, .int 0, .int v20])), (qf15, .inl (cf15, 30, .inl f15))]) [4, 1] (by decide) rfl
                have hKc := hK.sub (tys' := [(cf15, .int)]) [1] rfl
                have hFc := va_free (wc := [(h0, .inr (11, [.ref qf0, .ref qf1, .int v2, .int v3, .int v4, .ref qf5, .int v6, .int v7, .ref qf8, .ref qf9, .ref qf10, .ref qf11, .ref qf12, .ref qf13, .ref qf14, .ref qf15, .int v16, .int v17, .int v18, .int 0, .int v20])), (qf15, .inl (cf15, 30, .inl f15))]) hD hS hA [4, 1] rfl
                refine va_callv (va_runV (As := [.int (f14 (a2 : Int32).toNatClampNeg)]) (rest := []) ⟨hx, hb, hml, hown, hts⟩ (t11_push l dC dI H.size h0 ((f14 (a2 : Int32).toNatClampNeg)) qf0 qf1 v2 v3 v4 qf5 v6 v7 qf8 qf9 qf10 qf11 qf12 qf13 qf14 qf15 v16 v17 v18 0 v20 cf15 f15 nf g920_0 u20_1 u20_2 hu_20) (cwV 1 hts gv_h3_52 rfl rfl rfl (by decide +kernel) ⟨Nat.le_of_ble_eq_true rfl, Nat.le_of_ble_eq_true rfl⟩) ⟨fun a U g mk q => by obtain ⟨q0, q1, qP, qK, qD⟩ := q; exact ⟨q0, q1, qP, va_K.moved (u := U) (U := U.calling g mk a) (Vm.Alike.refl U.vm) qK, qD⟩, va_recv hKc hPc (ci := 11) (q0 := 0) rfl rfl, fun U hU hW => ⟨rfl, by rw [hU], by rw [hU]; exact hPc, va_K.moved hW.alike hKc, hDc.weaken (fun _ _ _ _ => trivial)⟩⟩ rfl rfl hl.1 rfl (lv_room (Nat.le_of_ble_eq_true rfl)) dX11_applyLocal_101 ⟨Nat.le_of_ble_eq_true rfl, Nat.le_of_ble_eq_true rfl⟩) hS (fun q _ h => hFc q h) hFc ?_
                clear hS
                intro u t H1 locs ht hvm hw hB hz1 hk1 hS
                obtain ⟨⟩ := u
                obtain ⟨hP1, hK1, hD1⟩ := hB
                rw [ht] at hP1
                have hK1 := va_K.moved hvm.symm hK1
                try dsimp only at hw
                have hPD := va_join (wr := [(qf14, .inl (cf14, 30, .inl f14)), (qf1, .inr (4, [.ref qf1_0, .ref qf1_1])), (qf1_1, .inl (cf1_1, 256, .inl f1_1)), (qf5, .inr (3, [.ref qf5_0, .int v5_1, .int v5_2, .int v5_3, .ref qf5_4, .ref qf5_5, .ref qf5_6, .int v5_7, .int v5_8, .int v5_9, .int v5_10, .ref qf5_11, .int v5_12, .ref qf5_13])), (qf5_13, .inl (cf5_13, 144, .inl f5_13))]) (w1 := [(h0, .inr (11, [.ref qf0, .ref qf1, .int v2, .int v3, .int v4, .ref qf5, .int v6, .int v7, .ref qf8, .ref qf9, .ref qf10, .ref qf11, .ref qf12, .ref qf13, .ref qf14, .ref qf15, .int v16, .int v17, .int u20_1, .int u20_2, .int v20])), (qf15, .inl (cf15, 30, .inl g920_0))]) hP hD [4, 1] [0, 2, 3, 5, 6] rfl rfl (by decide) (by decide) hk1 hFc hP1 hD1
                clear hP hD
                obtain ⟨hP, hD⟩ := hPD
                replace hK := (hK.sub (tys' := [(cf14, .int), (cf1_1, .boolean), (cf5_13, .int)]) [0, 2, 3] rfl).app hK1
                clear hPc hDc hKc hFc hP1 hK1 hD1 hz1 hk1 ht hvm
                generalize H1 = H at hP hS ⊢
                replace hP : va_P (dC, dI) vwCl [(qf14, .inl (cf14, 30, .inl f14)), (qf1, .inr (4, [.ref qf1_0, .ref qf1_1])), (qf1_1, .inl (cf1_1, 256, .inl f1_1)), (qf5, .inr (3, [.ref qf5_0, .int v5_1, .int v5_2, .int v5_3, .ref qf5_4, .ref qf5_5, .ref qf5_6, .int v5_7, .int v5_8, .int v5_9, .int v5_10, .ref qf5_11, .int v5_12, .ref qf5_13])), (qf5_13, .inl (cf5_13, 144, .inl f5_13)), (h0, .inr (11, [.ref qf0, .ref qf1, .int v2, .int v3, .int v4, .ref qf5, .int v6, .int v7, .ref qf8, .ref qf9, .ref qf10, .ref qf11, .ref qf12, .ref qf13, .ref qf14, .ref qf15, .int v16, .int v17, .int u20_1, .int u20_2, .int v20])), (qf15, .inl (cf15, 30, .inl g920_0))] H := hP
                replace hD : va_D A [(qf14, .inl (cf14, 30, .inl f14)), (qf1, .inr (4, [.ref qf1_0, .ref qf1_1])), (qf1_1, .inl (cf1_1, 256, .inl f1_1)), (qf5, .inr (3, [.ref qf5_0, .int v5_1, .int v5_2, .int v5_3, .ref qf5_4, .ref qf5_5, .ref qf5_6, .int v5_7, .int v5_8, .int v5_9, .int v5_10, .ref qf5_11, .int v5_12, .ref qf5_13])), (qf5_13, .inl (cf5_13, 144, .inl f5_13)), (h0, .inr (11, [.ref qf0, .ref qf1, .int v2, .int v3, .int v4, .ref qf5, .int v6, .int v7, .ref qf8, .ref qf9, .ref qf10, .ref qf11, .ref qf12, .ref qf13, .ref qf14, .ref qf15, .int v16, .int v17, .int u20_1, .int u20_2, .int v20])), (qf15, .inl (cf15, 30, .inl g920_0))] := hD
                replace hK : va_K (dC, dI) vwCl [(cf14, .int), (cf1_1, .boolean), (cf5_13, .int), (cf15, .int)] s := hK
                refine lv_goto (tgt := 142) hx hb dX11_applyLocal_104 (by decide) ?_
                have hr0 := Option.some.inj hsp
                clear hsp
                obtain ⟨hq0, hr1⟩ := Prod.mk.inj hr0
                clear hr0
                obtain ⟨hq1, hr2⟩ := Prod.mk.inj hr1
                clear hr1
                obtain ⟨hq2, hr3⟩ := Prod.mk.inj hr2
                clear hr2
                subst hq0
                subst hq1
                subst hq2
                subst hr3
                have hP9 := hP.sub (ws' := [(h0, .inr (11, [.ref qf0, .ref qf1, .int v2, .int v3, .int v4, .ref qf5, .int v6, .int v7, .ref qf8, .ref qf9, .ref qf10, .ref qf11, .ref qf12, .ref qf13, .ref qf14, .ref qf15, .int v16, .int v17, .int u20_1, .int u20_2, .int v20])), (qf5, .inr (3, [.ref qf5_0, .int v5_1, .int v5_2, .int v5_3, .ref qf5_4, .ref qf5_5, .ref qf5_6, .int v5_7, .int v5_8, .int v5_9, .int v5_10, .ref qf5_11, .int v5_12, .ref qf5_13])), (qf5_13, .inl (cf5_13, 144, .inl f5_13)), (qf14, .inl (cf14, 30, .inl f14)), (qf15, .inl (cf15, 30, .inl g920_0)), (qf1, .inr (4, [.ref qf1_0, .ref qf1_1])), (qf1_1, .inl (cf1_1, 256, .inl f1_1))]) [5, 3, 4, 0, 6, 1, 2] rfl
                have hD9 := hD.sub (ws' := [(h0, .inr (11, [.ref qf0, .ref qf1, .int v2, .int v3, .int v4, .ref qf5, .int v6, .int v7, .ref qf8, .ref qf9, .ref qf10, .ref qf11, .ref qf12, .ref qf13, .ref qf14, .ref qf15, .int v16, .int v17, .int u20_1, .int u20_2, .int v20])), (qf5, .inr (3, [.ref qf5_0, .int v5_1, .int v5_2, .int v5_3, .ref qf5_4, .ref qf5_5, .ref qf5_6, .int v5_7, .int v5_8, .int v5_9, .int v5_10, .ref qf5_11, .int v5_12, .ref qf5_13])), (qf5_13, .inl (cf5_13, 144, .inl f5_13)), (qf14, .inl (cf14, 30, .inl f14)), (qf15, .inl (cf15, 30, .inl g920_0)), (qf1, .inr (4, [.ref qf1_0, .ref qf1_1])), (qf1_1, .inl (cf1_1, 256, .inl f1_1))]) [5, 3, 4, 0, 6, 1, 2] (by decide) rfl
                have hK9 := hK.sub (tys' := [(cf5_13, .int), (cf14, .int), (cf15, .int), (cf1_1, .boolean)]) [2, 0, 3, 1] rfl
                exact W.vret hx hb hr (fun t ht hW => ⟨⟨(), rfl, trivial, by rw [ht]; exact hP9, va_K.moved hW.alike hK9, hD9⟩, hS.F ht⟩) hS.2.2 dX11_applyLocal_142
              · rw [if_neg c_48] at hsp
                refine lv_iload_n hx hb dX11_applyLocal_82 rfl (lv_at hl 0 rfl) ?_
                refine lv_if_eq (tgt := 90) hx hb dX11_applyLocal_83 (by decide) (fun c_50 => (show False by revert c_50; decide).elim) (fun c_50 => ?_)
                refine lv_iconst (v := 1) hx hb dX11_applyLocal_86 (by decide) ?_
                refine lv_goto (tgt := 91) hx hb dX11_applyLocal_87 (by decide) ?_
                refine va_put (D := (dC, dI)) (ci := 11) (v := .int 1) (ty := .boolean) (C := RX11) (T := TX11) (N := 21) hx hb hts uV_h3_X11 tyX11 tyX11_ok nmX11 hown hK hP hD hS 4 rfl rfl 19 (by decide) (hts (.fieldLink RX11 295 "ClassMill$Verifier" "fitting" "Z") mw_h3_220) (fun _ h9 => h9) rfl (by decide +kernel) rfl rfl (Nat.le_of_ble_eq_true rfl) dX11_applyLocal_91 ?_
                clear hP hD hS
                intro H locs hP hD hS
                replace hP : va_P (dC, dI) vwCl [(qf14, .inl (cf14, 30, .inl f14)), (qf15, .inl (cf15, 30, .inl f15)), (qf1, .inr (4, [.ref qf1_0, .ref qf1_1])), (qf1_1, .inl (cf1_1, 256, .inl f1_1)), (h0, .inr (11, [.ref qf0, .ref qf1, .int v2, .int v3, .int v4, .ref qf5, .int v6, .int v7, .ref qf8, .ref qf9, .ref qf10, .ref qf11, .ref qf12, .ref qf13, .ref qf14, .ref qf15, .int v16, .int v17, .int v18, .int 1, .int v20])), (qf5, .inr (3, [.ref qf5_0, .int v5_1, .int v5_2, .int v5_3, .ref qf5_4, .ref qf5_5, .ref qf5_6, .int v5_7, .int v5_8, .int v5_9, .int v5_10, .ref qf5_11, .int v5_12, .ref qf5_13])), (qf5_13, .inl (cf5_13, 144, .inl f5_13))] H := hP
                replace hD : va_D A [(qf14, .inl (cf14, 30, .inl f14)), (qf15, .inl (cf15, 30, .inl f15)), (qf1, .inr (4, [.ref qf1_0, .ref qf1_1])), (qf1_1, .inl (cf1_1, 256, .inl f1_1)), (h0, .inr (11, [.ref qf0, .ref qf1, .int v2, .int v3, .int v4, .ref qf5, .int v6, .int v7, .ref qf8, .ref qf9, .ref qf10, .ref qf11, .ref qf12, .ref qf13, .ref qf14, .ref qf15, .int v16, .int v17, .int v18, .int 1, .int v20])), (qf5, .inr (3, [.ref qf5_0, .int v5_1, .int v5_2, .int v5_3, .ref qf5_4, .ref qf5_5, .ref qf5_6, .int v5_7, .int v5_8, .int v5_9, .int v5_10, .ref qf5_11, .int v5_12, .ref qf5_13])), (qf5_13, .inl (cf5_13, 144, .inl f5_13))] := hD
                refine lv_aload_n hx hb dX11_applyLocal_94 rfl (lv_at hl 1 rfl) ?_
                refine lv_aload_n hx hb dX11_applyLocal_95 rfl (lv_at hl 1 rfl) ?_
                refine va_get (D := (dC, dI)) (ci := 11) (v := .ref qf14) (C := RX11) (T := TX11) (N := 21) hx hb hts uV_h3_X11 hown hK hP 4 rfl rfl 14 (by decide) (hts (.fieldLink RX11 44 "ClassMill$Verifier" "locals" "[I") mw_h3_205) (fun _ h9 => h9) rfl dX11_applyLocal_96 ?_
                refine lv_iload_n hx hb dX11_applyLocal_99 rfl (lv_at hl 3 rfl) ?_
                obtain ⟨hi_51, hsp⟩ := ox_in hsp
                refine va_iald hx hb hK hP 0 0 rfl rfl (i := a2) hi_51 dX11_applyLocal_100 ?_
                obtain ⟨⟨g921_0, u21_1, u21_2⟩, hu_21, hsp⟩ := ox_bind hsp
                try dsimp only at hsp
                have hPc := hP.sub (ws' := [(h0, .inr (11, [.ref qf0, .ref qf1, .int v2, .int v3, .int v4, .ref qf5, .int v6, .int v7, .ref qf8, .ref qf9, .ref qf10, .ref qf11, .ref qf12, .ref qf13, .ref qf14, .ref qf15, .int v16, .int v17, .int v18, .int 1, .int v20])), (qf15, .inl (cf15, 30, .inl f15))]) [4, 1] rfl
                have hDc := hD.sub (ws' := [(h0, .inr (11, [.ref qf0, .ref qf1, .int v2, .int v3, .int v4, .ref qf5, .int v6, .int v7, .ref qf8, .ref qf9, .ref qf10, .ref qf11, .ref qf12, .ref qf13, .ref qf14, .ref qf15, .int v16, .int v17, .int v18, .int 1, .int v20])), (qf15, .inl (cf15, 30, .inl f15))]) [4, 1] (by decide) rfl
                have hKc := hK.sub (tys' := [(cf15, .int)]) [1] rfl
                have hFc := va_free (wc := [(h0, .inr (11, [.ref qf0, .ref qf1, .int v2, .int v3, .int v4, .ref qf5, .int v6, .int v7, .ref qf8, .ref qf9, .ref qf10, .ref qf11, .ref qf12, .ref qf13, .ref qf14, .ref qf15, .int v16, .int v17, .int v18, .int 1, .int v20])), (qf15, .inl (cf15, 30, .inl f15))]) hD hS hA [4, 1] rfl
                refine va_callv (va_runV (As := [.int (f14 (a2 : Int32).toNatClampNeg)]) (rest := []) ⟨hx, hb, hml, hown, hts⟩ (t11_push l dC dI H.size h0 ((f14 (a2 : Int32).toNatClampNeg)) qf0 qf1 v2 v3 v4 qf5 v6 v7 qf8 qf9 qf10 qf11 qf12 qf13 qf14 qf15 v16 v17 v18 1 v20 cf15 f15 nf g921_0 u21_1 u21_2 hu_21) (cwV 1 hts gv_h3_52 rfl rfl rfl (by decide +kernel) ⟨Nat.le_of_ble_eq_true rfl, Nat.le_of_ble_eq_true rfl⟩) ⟨fun a U g mk q => by obtain ⟨q0, q1, qP, qK, qD⟩ := q; exact ⟨q0, q1, qP, va_K.moved (u := U) (U := U.calling g mk a) (Vm.Alike.refl U.vm) qK, qD⟩, va_recv hKc hPc (ci := 11) (q0 := 0) rfl rfl, fun U hU hW => ⟨rfl, by rw [hU], by rw [hU]; exact hPc, va_K.moved hW.alike hKc, hDc.weaken (fun _ _ _ _ => trivial)⟩⟩ rfl rfl hl.1 rfl (lv_room (Nat.le_of_ble_eq_true rfl)) dX11_applyLocal_101 ⟨Nat.le_of_ble_eq_true rfl, Nat.le_of_ble_eq_true rfl⟩) hS (fun q _ h => hFc q h) hFc ?_
                clear hS
                intro u t H1 locs ht hvm hw hB hz1 hk1 hS
                obtain ⟨⟩ := u
                obtain ⟨hP1, hK1, hD1⟩ := hB
                rw [ht] at hP1
                have hK1 := va_K.moved hvm.symm hK1
                try dsimp only at hw
                have hPD := va_join (wr := [(qf14, .inl (cf14, 30, .inl f14)), (qf1, .inr (4, [.ref qf1_0, .ref qf1_1])), (qf1_1, .inl (cf1_1, 256, .inl f1_1)), (qf5, .inr (3, [.ref qf5_0, .int v5_1, .int v5_2, .int v5_3, .ref qf5_4, .ref qf5_5, .ref qf5_6, .int v5_7, .int v5_8, .int v5_9, .int v5_10, .ref qf5_11, .int v5_12, .ref qf5_13])), (qf5_13, .inl (cf5_13, 144, .inl f5_13))]) (w1 := [(h0, .inr (11, [.ref qf0, .ref qf1, .int v2, .int v3, .int v4, .ref qf5, .int v6, .int v7, .ref qf8, .ref qf9, .ref qf10, .ref qf11, .ref qf12, .ref qf13, .ref qf14, .ref qf15, .int v16, .int v17, .int u21_1, .int u21_2, .int v20])), (qf15, .inl (cf15, 30, .inl g921_0))]) hP hD [4, 1] [0, 2, 3, 5, 6] rfl rfl (by decide) (by decide) hk1 hFc hP1 hD1
                clear hP hD
                obtain ⟨hP, hD⟩ := hPD
                replace hK := (hK.sub (tys' := [(cf14, .int), (cf1_1, .boolean), (cf5_13, .int)]) [0, 2, 3] rfl).app hK1
                clear hPc hDc hKc hFc hP1 hK1 hD1 hz1 hk1 ht hvm
                generalize H1 = H at hP hS ⊢
                replace hP : va_P (dC, dI) vwCl [(qf14, .inl (cf14, 30, .inl f14)), (qf1, .inr (4, [.ref qf1_0, .ref qf1_1])), (qf1_1, .inl (cf1_1, 256, .inl f1_1)), (qf5, .inr (3, [.ref qf5_0, .int v5_1, .int v5_2, .int v5_3, .ref qf5_4, .ref qf5_5, .ref qf5_6, .int v5_7, .int v5_8, .int v5_9, .int v5_10, .ref qf5_11, .int v5_12, .ref qf5_13])), (qf5_13, .inl (cf5_13, 144, .inl f5_13)), (h0, .inr (11, [.ref qf0, .ref qf1, .int v2, .int v3, .int v4, .ref qf5, .int v6, .int v7, .ref qf8, .ref qf9, .ref qf10, .ref qf11, .ref qf12, .ref qf13, .ref qf14, .ref qf15, .int v16, .int v17, .int u21_1, .int u21_2, .int v20])), (qf15, .inl (cf15, 30, .inl g921_0))] H := hP
                replace hD : va_D A [(qf14, .inl (cf14, 30, .inl f14)), (qf1, .inr (4, [.ref qf1_0, .ref qf1_1])), (qf1_1, .inl (cf1_1, 256, .inl f1_1)), (qf5, .inr (3, [.ref qf5_0, .int v5_1, .int v5_2, .int v5_3, .ref qf5_4, .ref qf5_5, .ref qf5_6, .int v5_7, .int v5_8, .int v5_9, .int v5_10, .ref qf5_11, .int v5_12, .ref qf5_13])), (qf5_13, .inl (cf5_13, 144, .inl f5_13)), (h0, .inr (11, [.ref qf0, .ref qf1, .int v2, .int v3, .int v4, .ref qf5, .int v6, .int v7, .ref qf8, .ref qf9, .ref qf10, .ref qf11, .ref qf12, .ref qf13, .ref qf14, .ref qf15, .int v16, .int v17, .int u21_1, .int u21_2, .int v20])), (qf15, .inl (cf15, 30, .inl g921_0))] := hD
                replace hK : va_K (dC, dI) vwCl [(cf14, .int), (cf1_1, .boolean), (cf5_13, .int), (cf15, .int)] s := hK
                refine lv_goto (tgt := 142) hx hb dX11_applyLocal_104 (by decide) ?_
                have hr0 := Option.some.inj hsp
                clear hsp
                obtain ⟨hq0, hr1⟩ := Prod.mk.inj hr0
                clear hr0
                obtain ⟨hq1, hr2⟩ := Prod.mk.inj hr1
                clear hr1
                obtain ⟨hq2, hr3⟩ := Prod.mk.inj hr2
                clear hr2
                subst hq0
                subst hq1
                subst hq2
                subst hr3
                have hP9 := hP.sub (ws' := [(h0, .inr (11, [.ref qf0, .ref qf1, .int v2, .int v3, .int v4, .ref qf5, .int v6, .int v7, .ref qf8, .ref qf9, .ref qf10, .ref qf11, .ref qf12, .ref qf13, .ref qf14, .ref qf15, .int v16, .int v17, .int u21_1, .int u21_2, .int v20])), (qf5, .inr (3, [.ref qf5_0, .int v5_1, .int v5_2, .int v5_3, .ref qf5_4, .ref qf5_5, .ref qf5_6, .int v5_7, .int v5_8, .int v5_9, .int v5_10, .ref qf5_11, .int v5_12, .ref qf5_13])), (qf5_13, .inl (cf5_13, 144, .inl f5_13)), (qf14, .inl (cf14, 30, .inl f14)), (qf15, .inl (cf15, 30, .inl g921_0)), (qf1, .inr (4, [.ref qf1_0, .ref qf1_1])), (qf1_1, .inl (cf1_1, 256, .inl f1_1))]) [5, 3, 4, 0, 6, 1, 2] rfl
                have hD9 := hD.sub (ws' := [(h0, .inr (11, [.ref qf0, .ref qf1, .int v2, .int v3, .int v4, .ref qf5, .int v6, .int v7, .ref qf8, .ref qf9, .ref qf10, .ref qf11, .ref qf12, .ref qf13, .ref qf14, .ref qf15, .int v16, .int v17, .int u21_1, .int u21_2, .int v20])), (qf5, .inr (3, [.ref qf5_0, .int v5_1, .int v5_2, .int v5_3, .ref qf5_4, .ref qf5_5, .ref qf5_6, .int v5_7, .int v5_8, .int v5_9, .int v5_10, .ref qf5_11, .int v5_12, .ref qf5_13])), (qf5_13, .inl (cf5_13, 144, .inl f5_13)), (qf14, .inl (cf14, 30, .inl f14)), (qf15, .inl (cf15, 30, .inl g921_0)), (qf1, .inr (4, [.ref qf1_0, .ref qf1_1])), (qf1_1, .inl (cf1_1, 256, .inl f1_1))]) [5, 3, 4, 0, 6, 1, 2] (by decide) rfl
                have hK9 := hK.sub (tys' := [(cf5_13, .int), (cf14, .int), (cf15, .int), (cf1_1, .boolean)]) [2, 0, 3, 1] rfl
                exact W.vret hx hb hr (fun t ht hW => ⟨⟨(), rfl, trivial, by rw [ht]; exact hP9, va_K.moved hW.alike hK9, hD9⟩, hS.F ht⟩) hS.2.2 dX11_applyLocal_142
    · rw [if_neg c_3] at hsp
      refine lv_aload_n hx hb dX11_applyLocal_18 rfl (lv_at hl 0 rfl) ?_
      refine lv_iconst (v := 0) hx hb dX11_applyLocal_19 (by decide) ?_
      refine va_put (D := (dC, dI)) (ci := 11) (v := .int 0) (ty := .boolean) (C := RX11) (T := TX11) (N := 21) hx hb hts uV_h3_X11 tyX11 tyX11_ok nmX11 hown hK hP hD hS 4 rfl rfl 19 (by decide) (hts (.fieldLink RX11 295 "ClassMill$Verifier" "fitting" "Z") mw_h3_220) (fun _ h9 => h9) rfl (by decide +kernel) rfl rfl (Nat.le_of_ble_eq_true rfl) dX11_applyLocal_20 ?_
      clear hP hD hS
      intro H locs hP hD hS
      replace hP : va_P (dC, dI) vwCl [(qf14, .inl (cf14, 30, .inl f14)), (qf15, .inl (cf15, 30, .inl f15)), (qf1, .inr (4, [.ref qf1_0, .ref qf1_1])), (qf1_1, .inl (cf1_1, 256, .inl f1_1)), (h0, .inr (11, [.ref qf0, .ref qf1, .int v2, .int v3, .int v4, .ref qf5, .int v6, .int v7, .ref qf8, .ref qf9, .ref qf10, .ref qf11, .ref qf12, .ref qf13, .ref qf14, .ref qf15, .int v16, .int v17, .int v18, .int 0, .int v20])), (qf5, .inr (3, [.ref qf5_0, .int v5_1, .int v5_2, .int v5_3, .ref qf5_4, .ref qf5_5, .ref qf5_6, .int v5_7, .int v5_8, .int v5_9, .int v5_10, .ref qf5_11, .int v5_12, .ref qf5_13])), (qf5_13, .inl (cf5_13, 144, .inl f5_13))] H := hP
      replace hD : va_D A [(qf14, .inl (cf14, 30, .inl f14)), (qf15, .inl (cf15, 30, .inl f15)), (qf1, .inr (4, [.ref qf1_0, .ref qf1_1])), (qf1_1, .inl (cf1_1, 256, .inl f1_1)), (h0, .inr (11, [.ref qf0, .ref qf1, .int v2, .int v3, .int v4, .ref qf5, .int v6, .int v7, .ref qf8, .ref qf9, .ref qf10, .ref qf11, .ref qf12, .ref qf13, .ref qf14, .ref qf15, .int v16, .int v17, .int v18, .int 0, .int v20])), (qf5, .inr (3, [.ref qf5_0, .int v5_1, .int v5_2, .int v5_3, .ref qf5_4, .ref qf5_5, .ref qf5_6, .int v5_7, .int v5_8, .int v5_9, .int v5_10, .ref qf5_11, .int v5_12, .ref qf5_13])), (qf5_13, .inl (cf5_13, 144, .inl f5_13))] := hD
      refine lv_goto (tgt := 142) hx hb dX11_applyLocal_23 (by decide) ?_
      have hr0 := Option.some.inj hsp
      clear hsp
      obtain ⟨hq0, hr1⟩ := Prod.mk.inj hr0
      clear hr0
      obtain ⟨hq1, hr2⟩ := Prod.mk.inj hr1
      clear hr1
      obtain ⟨hq2, hr3⟩ := Prod.mk.inj hr2
      clear hr2
      subst hq0
      subst hq1
      subst hq2
      subst hr3
      have hP9 := hP.sub (ws' := [(h0, .inr (11, [.ref qf0, .ref qf1, .int v2, .int v3, .int v4, .ref qf5, .int v6, .int v7, .ref qf8, .ref qf9, .ref qf10, .ref qf11, .ref qf12, .ref qf13, .ref qf14, .ref qf15, .int v16, .int v17, .int v18, .int 0, .int v20])), (qf5, .inr (3, [.ref qf5_0, .int v5_1, .int v5_2, .int v5_3, .ref qf5_4, .ref qf5_5, .ref qf5_6, .int v5_7, .int v5_8, .int v5_9, .int v5_10, .ref qf5_11, .int v5_12, .ref qf5_13])), (qf5_13, .inl (cf5_13, 144, .inl f5_13)), (qf14, .inl (cf14, 30, .inl f14)), (qf15, .inl (cf15, 30, .inl f15)), (qf1, .inr (4, [.ref qf1_0, .ref qf1_1])), (qf1_1, .inl (cf1_1, 256, .inl f1_1))]) [4, 5, 6, 0, 1, 2, 3] rfl
      have hD9 := hD.sub (ws' := [(h0, .inr (11, [.ref qf0, .ref qf1, .int v2, .int v3, .int v4, .ref qf5, .int v6, .int v7, .ref qf8, .ref qf9, .ref qf10, .ref qf11, .ref qf12, .ref qf13, .ref qf14, .ref qf15, .int v16, .int v17, .int v18, .int 0, .int v20])), (qf5, .inr (3, [.ref qf5_0, .int v5_1, .int v5_2, .int v5_3, .ref qf5_4, .ref qf5_5, .ref qf5_6, .int v5_7, .int v5_8, .int v5_9, .int v5_10, .ref qf5_11, .int v5_12, .ref qf5_13])), (qf5_13, .inl (cf5_13, 144, .inl f5_13)), (qf14, .inl (cf14, 30, .inl f14)), (qf15, .inl (cf15, 30, .inl f15)), (qf1, .inr (4, [.ref qf1_0, .ref qf1_1])), (qf1_1, .inl (cf1_1, 256, .inl f1_1))]) [4, 5, 6, 0, 1, 2, 3] (by decide) rfl
      have hK9 := hK.sub (tys' := [(cf5_13, .int), (cf14, .int), (cf15, .int), (cf1_1, .boolean)]) [3, 0, 1, 2] rfl
      exact W.vret hx hb hr (fun t ht hW => ⟨⟨(), rfl, trivial, by rw [ht]; exact hP9, va_K.moved hW.alike hK9, hD9⟩, hS.F ht⟩) hS.2.2 dX11_applyLocal_142
def sp_t11_applyJump (nf : Nat) (a1 : Int32) (v18 : Int32) (v19 : Int32) (f15 : Nat → Int32) (f1_1 : Nat → Int32) : Option (Int32 × Int32) := (if a1 = 167 then (some (v18, v19)) else (if a1 = 165 then ((sp_t11_wantReference nf v18 v19 f15).bind (fun p1 => ((sp_t11_wantReference nf p1.2.1 p1.2.2 f15).bind (fun p2 => (some (p2.2.1, p2.2.2)))))) else (if a1 = 166 then ((sp_t11_wantReference nf v18 v19 f15).bind (fun p5 => ((sp_t11_wantReference nf p5.2.1 p5.2.2 f15).bind (fun p6 => (some (p6.2.1, p6.2.2)))))) else ((sp_t11_want nf 301 v18 v19 f15 f1_1).bind (fun p3 => (if a1 < 159 then (some (p3.1, p3.2)) else ((sp_t11_want nf 301 p3.1 p3.2 f15 f1_1).bind (fun p4 => (some (p4.1, p4.2))))))))))
